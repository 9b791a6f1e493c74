theorem d_CM_init_0 : decode b_CM_init 0 = .ok (.aload_n 0, 1) := by decide +kernel
theorem d_CM_init_1 : decode b_CM_init 1 = .ok (.invokespecial 1, 3) := by decide +kernel
theorem d_CM_init_4 : decode b_CM_init 4 = .ok (.aload_n 0, 1) := by decide +kernel
theorem d_CM_init_5 : decode b_CM_init 5 = .ok (.new 7, 3) := by decide +kernel
theorem d_CM_init_8 : decode b_CM_init 8 = .ok (.dup, 1) := by decide +kernel
theorem d_CM_init_9 : decode b_CM_init 9 = .ok (.iload_n 1, 1) := by decide +kernel
theorem d_CM_init_10 : decode b_CM_init 10 = .ok (.sipush 400, 3) := by decide +kernel
theorem d_CM_init_13 : decode b_CM_init 13 = .ok (.if_icmp .lt 10, 3) := by decide +kernel
theorem d_CM_init_16 : decode b_CM_init 16 = .ok (.iload_n 1, 1) := by decide +kernel
theorem d_CM_init_17 : decode b_CM_init 17 = .ok (.sipush 2000, 3) := by decide +kernel
theorem d_CM_init_20 : decode b_CM_init 20 = .ok (.if_icmp .le 9, 3) := by decide +kernel
theorem d_CM_init_23 : decode b_CM_init 23 = .ok (.sipush 1400, 3) := by decide +kernel
theorem d_CM_init_26 : decode b_CM_init 26 = .ok (.goto 4, 3) := by decide +kernel
theorem d_CM_init_29 : decode b_CM_init 29 = .ok (.iload_n 1, 1) := by decide +kernel
theorem d_CM_init_30 : decode b_CM_init 30 = .ok (.invokespecial 11, 3) := by decide +kernel
theorem d_CM_init_33 : decode b_CM_init 33 = .ok (.putfield 14, 3) := by decide +kernel
theorem d_CM_init_36 : decode b_CM_init 36 = .ok (.aload_n 0, 1) := by decide +kernel
theorem d_CM_init_37 : decode b_CM_init 37 = .ok (.new 18, 3) := by decide +kernel
theorem d_CM_init_40 : decode b_CM_init 40 = .ok (.dup, 1) := by decide +kernel
theorem d_CM_init_41 : decode b_CM_init 41 = .ok (.bipush 20, 2) := by decide +kernel
theorem d_CM_init_43 : decode b_CM_init 43 = .ok (.bipush 80, 2) := by decide +kernel
theorem d_CM_init_45 : decode b_CM_init 45 = .ok (.invokespecial 20, 3) := by decide +kernel
theorem d_CM_init_48 : decode b_CM_init 48 = .ok (.putfield 23, 3) := by decide +kernel
theorem d_CM_init_51 : decode b_CM_init 51 = .ok (.aload_n 0, 1) := by decide +kernel
theorem d_CM_init_52 : decode b_CM_init 52 = .ok (.new 18, 3) := by decide +kernel
theorem d_CM_init_55 : decode b_CM_init 55 = .ok (.dup, 1) := by decide +kernel
theorem d_CM_init_56 : decode b_CM_init 56 = .ok (.bipush 40, 2) := by decide +kernel
theorem d_CM_init_58 : decode b_CM_init 58 = .ok (.sipush 132, 3) := by decide +kernel
theorem d_CM_init_61 : decode b_CM_init 61 = .ok (.invokespecial 20, 3) := by decide +kernel
theorem d_CM_init_64 : decode b_CM_init 64 = .ok (.putfield 27, 3) := by decide +kernel
theorem d_CM_init_67 : decode b_CM_init 67 = .ok (.aload_n 0, 1) := by decide +kernel
theorem d_CM_init_68 : decode b_CM_init 68 = .ok (.new 18, 3) := by decide +kernel
theorem d_CM_init_71 : decode b_CM_init 71 = .ok (.dup, 1) := by decide +kernel
theorem d_CM_init_72 : decode b_CM_init 72 = .ok (.bipush 20, 2) := by decide +kernel
theorem d_CM_init_74 : decode b_CM_init 74 = .ok (.bipush 80, 2) := by decide +kernel
theorem d_CM_init_76 : decode b_CM_init 76 = .ok (.invokespecial 20, 3) := by decide +kernel
theorem d_CM_init_79 : decode b_CM_init 79 = .ok (.putfield 30, 3) := by decide +kernel
theorem d_CM_init_82 : decode b_CM_init 82 = .ok (.aload_n 0, 1) := by decide +kernel
theorem d_CM_init_83 : decode b_CM_init 83 = .ok (.new 33, 3) := by decide +kernel
theorem d_CM_init_86 : decode b_CM_init 86 = .ok (.dup, 1) := by decide +kernel
theorem d_CM_init_87 : decode b_CM_init 87 = .ok (.aload_n 0, 1) := by decide +kernel
theorem d_CM_init_88 : decode b_CM_init 88 = .ok (.getfield 14, 3) := by decide +kernel
theorem d_CM_init_91 : decode b_CM_init 91 = .ok (.aload_n 0, 1) := by decide +kernel
theorem d_CM_init_92 : decode b_CM_init 92 = .ok (.getfield 23, 3) := by decide +kernel
theorem d_CM_init_95 : decode b_CM_init 95 = .ok (.aload_n 0, 1) := by decide +kernel
theorem d_CM_init_96 : decode b_CM_init 96 = .ok (.getfield 27, 3) := by decide +kernel
theorem d_CM_init_99 : decode b_CM_init 99 = .ok (.aload_n 0, 1) := by decide +kernel
theorem d_CM_init_100 : decode b_CM_init 100 = .ok (.getfield 30, 3) := by decide +kernel
theorem d_CM_init_103 : decode b_CM_init 103 = .ok (.invokespecial 35, 3) := by decide +kernel
theorem d_CM_init_106 : decode b_CM_init 106 = .ok (.putfield 38, 3) := by decide +kernel
theorem d_CM_init_109 : decode b_CM_init 109 = .ok (.return_, 1) := by decide +kernel
theorem d_CM_set_0 : decode b_CM_set 0 = .ok (.aload_n 0, 1) := by decide +kernel
theorem d_CM_set_1 : decode b_CM_set 1 = .ok (.getfield 14, 3) := by decide +kernel
theorem d_CM_set_4 : decode b_CM_set 4 = .ok (.iload_n 1, 1) := by decide +kernel
theorem d_CM_set_5 : decode b_CM_set 5 = .ok (.invokevirtual 42, 3) := by decide +kernel
theorem d_CM_set_8 : decode b_CM_set 8 = .ok (.ifCond .eq 10, 3) := by decide +kernel
theorem d_CM_set_11 : decode b_CM_set 11 = .ok (.iload_n 2, 1) := by decide +kernel
theorem d_CM_set_12 : decode b_CM_set 12 = .ok (.invokestatic 46, 3) := by decide +kernel
theorem d_CM_set_15 : decode b_CM_set 15 = .ok (.ifCond .ne 5, 3) := by decide +kernel
theorem d_CM_set_18 : decode b_CM_set 18 = .ok (.iconst 0, 1) := by decide +kernel
theorem d_CM_set_19 : decode b_CM_set 19 = .ok (.ireturn, 1) := by decide +kernel
theorem d_CM_set_20 : decode b_CM_set 20 = .ok (.aload_n 0, 1) := by decide +kernel
theorem d_CM_set_21 : decode b_CM_set 21 = .ok (.getfield 14, 3) := by decide +kernel
theorem d_CM_set_24 : decode b_CM_set 24 = .ok (.iload_n 1, 1) := by decide +kernel
theorem d_CM_set_25 : decode b_CM_set 25 = .ok (.iload_n 2, 1) := by decide +kernel
theorem d_CM_set_26 : decode b_CM_set 26 = .ok (.iload_n 3, 1) := by decide +kernel
theorem d_CM_set_27 : decode b_CM_set 27 = .ok (.invokevirtual 49, 3) := by decide +kernel
theorem d_CM_set_30 : decode b_CM_set 30 = .ok (.iconst 1, 1) := by decide +kernel
theorem d_CM_set_31 : decode b_CM_set 31 = .ok (.ireturn, 1) := by decide +kernel
theorem d_CM_put_0 : decode b_CM_put 0 = .ok (.lload_n 2, 1) := by decide +kernel
theorem d_CM_put_1 : decode b_CM_put 1 = .ok (.invokestatic 53, 3) := by decide +kernel
theorem d_CM_put_4 : decode b_CM_put 4 = .ok (.istore 5, 2) := by decide +kernel
theorem d_CM_put_6 : decode b_CM_put 6 = .ok (.iload 5, 2) := by decide +kernel
theorem d_CM_put_8 : decode b_CM_put 8 = .ok (.ifCond .le 29, 3) := by decide +kernel
theorem d_CM_put_11 : decode b_CM_put 11 = .ok (.iload_n 1, 1) := by decide +kernel
theorem d_CM_put_12 : decode b_CM_put 12 = .ok (.ifCond .lt 17, 3) := by decide +kernel
theorem d_CM_put_15 : decode b_CM_put 15 = .ok (.iload_n 1, 1) := by decide +kernel
theorem d_CM_put_16 : decode b_CM_put 16 = .ok (.aload_n 0, 1) := by decide +kernel
theorem d_CM_put_17 : decode b_CM_put 17 = .ok (.getfield 14, 3) := by decide +kernel
theorem d_CM_put_20 : decode b_CM_put 20 = .ok (.invokevirtual 57, 3) := by decide +kernel
theorem d_CM_put_23 : decode b_CM_put 23 = .ok (.iload 5, 2) := by decide +kernel
theorem d_CM_put_25 : decode b_CM_put 25 = .ok (.isub, 1) := by decide +kernel
theorem d_CM_put_26 : decode b_CM_put 26 = .ok (.if_icmp .le 11, 3) := by decide +kernel
theorem d_CM_put_29 : decode b_CM_put 29 = .ok (.new 61, 3) := by decide +kernel
theorem d_CM_put_32 : decode b_CM_put 32 = .ok (.dup, 1) := by decide +kernel
theorem d_CM_put_33 : decode b_CM_put 33 = .ok (.invokespecial 63, 3) := by decide +kernel
theorem d_CM_put_36 : decode b_CM_put 36 = .ok (.athrow, 1) := by decide +kernel
theorem d_CM_put_37 : decode b_CM_put 37 = .ok (.iconst 0, 1) := by decide +kernel
theorem d_CM_put_38 : decode b_CM_put 38 = .ok (.istore 6, 2) := by decide +kernel
theorem d_CM_put_40 : decode b_CM_put 40 = .ok (.iload 6, 2) := by decide +kernel
theorem d_CM_put_42 : decode b_CM_put 42 = .ok (.iload 5, 2) := by decide +kernel
theorem d_CM_put_44 : decode b_CM_put 44 = .ok (.if_icmp .ge 42, 3) := by decide +kernel
theorem d_CM_put_47 : decode b_CM_put 47 = .ok (.aload_n 0, 1) := by decide +kernel
theorem d_CM_put_48 : decode b_CM_put 48 = .ok (.getfield 14, 3) := by decide +kernel
theorem d_CM_put_51 : decode b_CM_put 51 = .ok (.iload_n 1, 1) := by decide +kernel
theorem d_CM_put_52 : decode b_CM_put 52 = .ok (.iload 6, 2) := by decide +kernel
theorem d_CM_put_54 : decode b_CM_put 54 = .ok (.iadd, 1) := by decide +kernel
theorem d_CM_put_55 : decode b_CM_put 55 = .ok (.lload_n 2, 1) := by decide +kernel
theorem d_CM_put_56 : decode b_CM_put 56 = .ok (.iload 6, 2) := by decide +kernel
theorem d_CM_put_58 : decode b_CM_put 58 = .ok (.invokestatic 64, 3) := by decide +kernel
theorem d_CM_put_61 : decode b_CM_put 61 = .ok (.iload 4, 2) := by decide +kernel
theorem d_CM_put_63 : decode b_CM_put 63 = .ok (.iload 6, 2) := by decide +kernel
theorem d_CM_put_65 : decode b_CM_put 65 = .ok (.ishr, 1) := by decide +kernel
theorem d_CM_put_66 : decode b_CM_put 66 = .ok (.iconst 1, 1) := by decide +kernel
theorem d_CM_put_67 : decode b_CM_put 67 = .ok (.iand, 1) := by decide +kernel
theorem d_CM_put_68 : decode b_CM_put 68 = .ok (.iconst 1, 1) := by decide +kernel
theorem d_CM_put_69 : decode b_CM_put 69 = .ok (.if_icmp .ne 7, 3) := by decide +kernel
theorem d_CM_put_72 : decode b_CM_put 72 = .ok (.iconst 1, 1) := by decide +kernel
theorem d_CM_put_73 : decode b_CM_put 73 = .ok (.goto 4, 3) := by decide +kernel
theorem d_CM_put_76 : decode b_CM_put 76 = .ok (.iconst 0, 1) := by decide +kernel
theorem d_CM_put_77 : decode b_CM_put 77 = .ok (.invokevirtual 49, 3) := by decide +kernel
theorem d_CM_put_80 : decode b_CM_put 80 = .ok (.iinc 6 1, 3) := by decide +kernel
theorem d_CM_put_83 : decode b_CM_put 83 = .ok (.goto (-43), 3) := by decide +kernel
theorem d_CM_put_86 : decode b_CM_put 86 = .ok (.iload 5, 2) := by decide +kernel
theorem d_CM_put_88 : decode b_CM_put 88 = .ok (.ireturn, 1) := by decide +kernel
theorem d_CM_column_0 : decode b_CM_column 0 = .ok (.iload_n 1, 1) := by decide +kernel
theorem d_CM_column_1 : decode b_CM_column 1 = .ok (.iconst 1, 1) := by decide +kernel
theorem d_CM_column_2 : decode b_CM_column 2 = .ok (.if_icmp .lt 16, 3) := by decide +kernel
theorem d_CM_column_5 : decode b_CM_column 5 = .ok (.iload_n 1, 1) := by decide +kernel
theorem d_CM_column_6 : decode b_CM_column 6 = .ok (.bipush 80, 2) := by decide +kernel
theorem d_CM_column_8 : decode b_CM_column 8 = .ok (.if_icmp .gt 10, 3) := by decide +kernel
theorem d_CM_column_11 : decode b_CM_column 11 = .ok (.iload_n 2, 1) := by decide +kernel
theorem d_CM_column_12 : decode b_CM_column 12 = .ok (.invokestatic 46, 3) := by decide +kernel
theorem d_CM_column_15 : decode b_CM_column 15 = .ok (.ifCond .ne 5, 3) := by decide +kernel
theorem d_CM_column_18 : decode b_CM_column 18 = .ok (.iconst 0, 1) := by decide +kernel
theorem d_CM_column_19 : decode b_CM_column 19 = .ok (.ireturn, 1) := by decide +kernel
theorem d_CM_column_20 : decode b_CM_column 20 = .ok (.aload_n 0, 1) := by decide +kernel
theorem d_CM_column_21 : decode b_CM_column 21 = .ok (.getfield 23, 3) := by decide +kernel
theorem d_CM_column_24 : decode b_CM_column 24 = .ok (.iload_n 1, 1) := by decide +kernel
theorem d_CM_column_25 : decode b_CM_column 25 = .ok (.iload_n 2, 1) := by decide +kernel
theorem d_CM_column_26 : decode b_CM_column 26 = .ok (.invokevirtual 68, 3) := by decide +kernel
theorem d_CM_column_29 : decode b_CM_column 29 = .ok (.iconst 1, 1) := by decide +kernel
theorem d_CM_column_30 : decode b_CM_column 30 = .ok (.ireturn, 1) := by decide +kernel
theorem d_CM_card_0 : decode b_CM_card 0 = .ok (.aload_n 0, 1) := by decide +kernel
theorem d_CM_card_1 : decode b_CM_card 1 = .ok (.getfield 23, 3) := by decide +kernel
theorem d_CM_card_4 : decode b_CM_card 4 = .ok (.invokevirtual 71, 3) := by decide +kernel
theorem d_CM_card_7 : decode b_CM_card 7 = .ok (.ifCond .eq 11, 3) := by decide +kernel
theorem d_CM_card_10 : decode b_CM_card 10 = .ok (.new 75, 3) := by decide +kernel
theorem d_CM_card_13 : decode b_CM_card 13 = .ok (.dup, 1) := by decide +kernel
theorem d_CM_card_14 : decode b_CM_card 14 = .ok (.invokespecial 77, 3) := by decide +kernel
theorem d_CM_card_17 : decode b_CM_card 17 = .ok (.athrow, 1) := by decide +kernel
theorem d_CM_card_18 : decode b_CM_card 18 = .ok (.aload_n 0, 1) := by decide +kernel
theorem d_CM_card_19 : decode b_CM_card 19 = .ok (.getfield 23, 3) := by decide +kernel
theorem d_CM_card_22 : decode b_CM_card 22 = .ok (.invokevirtual 78, 3) := by decide +kernel
theorem d_CM_card_25 : decode b_CM_card 25 = .ok (.aload_n 0, 1) := by decide +kernel
theorem d_CM_card_26 : decode b_CM_card 26 = .ok (.getfield 38, 3) := by decide +kernel
theorem d_CM_card_29 : decode b_CM_card 29 = .ok (.invokevirtual 81, 3) := by decide +kernel
theorem d_CM_card_32 : decode b_CM_card 32 = .ok (.ireturn, 1) := by decide +kernel
theorem d_CM_start_0 : decode b_CM_start 0 = .ok (.aload_n 0, 1) := by decide +kernel
theorem d_CM_start_1 : decode b_CM_start 1 = .ok (.getfield 14, 3) := by decide +kernel
theorem d_CM_start_4 : decode b_CM_start 4 = .ok (.iload_n 1, 1) := by decide +kernel
theorem d_CM_start_5 : decode b_CM_start 5 = .ok (.invokevirtual 42, 3) := by decide +kernel
theorem d_CM_start_8 : decode b_CM_start 8 = .ok (.ifCond .ne 5, 3) := by decide +kernel
theorem d_CM_start_11 : decode b_CM_start 11 = .ok (.iconst 0, 1) := by decide +kernel
theorem d_CM_start_12 : decode b_CM_start 12 = .ok (.ireturn, 1) := by decide +kernel
theorem d_CM_start_13 : decode b_CM_start 13 = .ok (.aload_n 0, 1) := by decide +kernel
theorem d_CM_start_14 : decode b_CM_start 14 = .ok (.getfield 38, 3) := by decide +kernel
theorem d_CM_start_17 : decode b_CM_start 17 = .ok (.iload_n 1, 1) := by decide +kernel
theorem d_CM_start_18 : decode b_CM_start 18 = .ok (.putfield 84, 3) := by decide +kernel
theorem d_CM_start_21 : decode b_CM_start 21 = .ok (.iconst 1, 1) := by decide +kernel
theorem d_CM_start_22 : decode b_CM_start 22 = .ok (.ireturn, 1) := by decide +kernel
theorem d_CM_run_0 : decode b_CM_run 0 = .ok (.iload_n 1, 1) := by decide +kernel
theorem d_CM_run_1 : decode b_CM_run 1 = .ok (.iconst 1, 1) := by decide +kernel
theorem d_CM_run_2 : decode b_CM_run 2 = .ok (.if_icmp .lt 10, 3) := by decide +kernel
theorem d_CM_run_5 : decode b_CM_run 5 = .ok (.iload_n 1, 1) := by decide +kernel
theorem d_CM_run_6 : decode b_CM_run 6 = .ok (.sipush 20000, 3) := by decide +kernel
theorem d_CM_run_9 : decode b_CM_run 9 = .ok (.if_icmp .le 11, 3) := by decide +kernel
theorem d_CM_run_12 : decode b_CM_run 12 = .ok (.new 61, 3) := by decide +kernel
theorem d_CM_run_15 : decode b_CM_run 15 = .ok (.dup, 1) := by decide +kernel
theorem d_CM_run_16 : decode b_CM_run 16 = .ok (.invokespecial 63, 3) := by decide +kernel
theorem d_CM_run_19 : decode b_CM_run 19 = .ok (.athrow, 1) := by decide +kernel
theorem d_CM_run_20 : decode b_CM_run 20 = .ok (.iconst 0, 1) := by decide +kernel
theorem d_CM_run_21 : decode b_CM_run 21 = .ok (.istore_n 2, 1) := by decide +kernel
theorem d_CM_run_22 : decode b_CM_run 22 = .ok (.iconst 0, 1) := by decide +kernel
theorem d_CM_run_23 : decode b_CM_run 23 = .ok (.istore_n 3, 1) := by decide +kernel
theorem d_CM_run_24 : decode b_CM_run 24 = .ok (.iload_n 3, 1) := by decide +kernel
theorem d_CM_run_25 : decode b_CM_run 25 = .ok (.iload_n 1, 1) := by decide +kernel
theorem d_CM_run_26 : decode b_CM_run 26 = .ok (.if_icmp .ge 31, 3) := by decide +kernel
theorem d_CM_run_29 : decode b_CM_run 29 = .ok (.iload_n 2, 1) := by decide +kernel
theorem d_CM_run_30 : decode b_CM_run 30 = .ok (.ifCond .ne 27, 3) := by decide +kernel
theorem d_CM_run_33 : decode b_CM_run 33 = .ok (.aload_n 0, 1) := by decide +kernel
theorem d_CM_run_34 : decode b_CM_run 34 = .ok (.getfield 38, 3) := by decide +kernel
theorem d_CM_run_37 : decode b_CM_run 37 = .ok (.invokevirtual 88, 3) := by decide +kernel
theorem d_CM_run_40 : decode b_CM_run 40 = .ok (.istore_n 2, 1) := by decide +kernel
theorem d_CM_run_41 : decode b_CM_run 41 = .ok (.aload_n 0, 1) := by decide +kernel
theorem d_CM_run_42 : decode b_CM_run 42 = .ok (.dup, 1) := by decide +kernel
theorem d_CM_run_43 : decode b_CM_run 43 = .ok (.getfield 91, 3) := by decide +kernel
theorem d_CM_run_46 : decode b_CM_run 46 = .ok (.iconst 1, 1) := by decide +kernel
theorem d_CM_run_47 : decode b_CM_run 47 = .ok (.iadd, 1) := by decide +kernel
theorem d_CM_run_48 : decode b_CM_run 48 = .ok (.putfield 91, 3) := by decide +kernel
theorem d_CM_run_51 : decode b_CM_run 51 = .ok (.iinc 3 1, 3) := by decide +kernel
theorem d_CM_run_54 : decode b_CM_run 54 = .ok (.goto (-30), 3) := by decide +kernel
theorem d_CM_run_57 : decode b_CM_run 57 = .ok (.aload_n 0, 1) := by decide +kernel
theorem d_CM_run_58 : decode b_CM_run 58 = .ok (.iload_n 2, 1) := by decide +kernel
theorem d_CM_run_59 : decode b_CM_run 59 = .ok (.putfield 94, 3) := by decide +kernel
theorem d_CM_run_62 : decode b_CM_run 62 = .ok (.iload_n 2, 1) := by decide +kernel
theorem d_CM_run_63 : decode b_CM_run 63 = .ok (.ireturn, 1) := by decide +kernel
theorem d_CM_at_0 : decode b_CM_at 0 = .ok (.aload_n 0, 1) := by decide +kernel
theorem d_CM_at_1 : decode b_CM_at 1 = .ok (.getfield 14, 3) := by decide +kernel
theorem d_CM_at_4 : decode b_CM_at 4 = .ok (.iload_n 1, 1) := by decide +kernel
theorem d_CM_at_5 : decode b_CM_at 5 = .ok (.invokevirtual 42, 3) := by decide +kernel
theorem d_CM_at_8 : decode b_CM_at 8 = .ok (.ifCond .ne 11, 3) := by decide +kernel
theorem d_CM_at_11 : decode b_CM_at 11 = .ok (.new 97, 3) := by decide +kernel
theorem d_CM_at_14 : decode b_CM_at 14 = .ok (.dup, 1) := by decide +kernel
theorem d_CM_at_15 : decode b_CM_at 15 = .ok (.invokespecial 99, 3) := by decide +kernel
theorem d_CM_at_18 : decode b_CM_at 18 = .ok (.athrow, 1) := by decide +kernel
theorem d_CM_at_19 : decode b_CM_at 19 = .ok (.aload_n 0, 1) := by decide +kernel
theorem d_CM_at_20 : decode b_CM_at 20 = .ok (.getfield 14, 3) := by decide +kernel
theorem d_CM_at_23 : decode b_CM_at 23 = .ok (.iload_n 1, 1) := by decide +kernel
theorem d_CM_at_24 : decode b_CM_at 24 = .ok (.invokevirtual 100, 3) := by decide +kernel
theorem d_CM_at_27 : decode b_CM_at 27 = .ok (.ireturn, 1) := by decide +kernel
theorem d_CM_isMarked_0 : decode b_CM_isMarked 0 = .ok (.aload_n 0, 1) := by decide +kernel
theorem d_CM_isMarked_1 : decode b_CM_isMarked 1 = .ok (.getfield 14, 3) := by decide +kernel
theorem d_CM_isMarked_4 : decode b_CM_isMarked 4 = .ok (.iload_n 1, 1) := by decide +kernel
theorem d_CM_isMarked_5 : decode b_CM_isMarked 5 = .ok (.invokevirtual 42, 3) := by decide +kernel
theorem d_CM_isMarked_8 : decode b_CM_isMarked 8 = .ok (.ifCond .ne 11, 3) := by decide +kernel
theorem d_CM_isMarked_11 : decode b_CM_isMarked 11 = .ok (.new 97, 3) := by decide +kernel
theorem d_CM_isMarked_14 : decode b_CM_isMarked 14 = .ok (.dup, 1) := by decide +kernel
theorem d_CM_isMarked_15 : decode b_CM_isMarked 15 = .ok (.invokespecial 99, 3) := by decide +kernel
theorem d_CM_isMarked_18 : decode b_CM_isMarked 18 = .ok (.athrow, 1) := by decide +kernel
theorem d_CM_isMarked_19 : decode b_CM_isMarked 19 = .ok (.aload_n 0, 1) := by decide +kernel
theorem d_CM_isMarked_20 : decode b_CM_isMarked 20 = .ok (.getfield 14, 3) := by decide +kernel
theorem d_CM_isMarked_23 : decode b_CM_isMarked 23 = .ok (.iload_n 1, 1) := by decide +kernel
theorem d_CM_isMarked_24 : decode b_CM_isMarked 24 = .ok (.invokevirtual 104, 3) := by decide +kernel
theorem d_CM_isMarked_27 : decode b_CM_isMarked 27 = .ok (.ireturn, 1) := by decide +kernel
theorem d_CM_state_0 : decode b_CM_state 0 = .ok (.iload_n 1, 1) := by decide +kernel
theorem d_CM_state_1 : decode b_CM_state 1 = .ok (.tableswitch 133 0 8 #[51, 59, 67, 75, 83, 99, 115, 120, 125], 51) := by decide +kernel
theorem d_CM_state_52 : decode b_CM_state 52 = .ok (.aload_n 0, 1) := by decide +kernel
theorem d_CM_state_53 : decode b_CM_state 53 = .ok (.getfield 38, 3) := by decide +kernel
theorem d_CM_state_56 : decode b_CM_state 56 = .ok (.getfield 84, 3) := by decide +kernel
theorem d_CM_state_59 : decode b_CM_state 59 = .ok (.ireturn, 1) := by decide +kernel
theorem d_CM_state_60 : decode b_CM_state 60 = .ok (.aload_n 0, 1) := by decide +kernel
theorem d_CM_state_61 : decode b_CM_state 61 = .ok (.getfield 38, 3) := by decide +kernel
theorem d_CM_state_64 : decode b_CM_state 64 = .ok (.getfield 107, 3) := by decide +kernel
theorem d_CM_state_67 : decode b_CM_state 67 = .ok (.ireturn, 1) := by decide +kernel
theorem d_CM_state_68 : decode b_CM_state 68 = .ok (.aload_n 0, 1) := by decide +kernel
theorem d_CM_state_69 : decode b_CM_state 69 = .ok (.getfield 38, 3) := by decide +kernel
theorem d_CM_state_72 : decode b_CM_state 72 = .ok (.getfield 110, 3) := by decide +kernel
theorem d_CM_state_75 : decode b_CM_state 75 = .ok (.ireturn, 1) := by decide +kernel
theorem d_CM_state_76 : decode b_CM_state 76 = .ok (.aload_n 0, 1) := by decide +kernel
theorem d_CM_state_77 : decode b_CM_state 77 = .ok (.getfield 38, 3) := by decide +kernel
theorem d_CM_state_80 : decode b_CM_state 80 = .ok (.getfield 113, 3) := by decide +kernel
theorem d_CM_state_83 : decode b_CM_state 83 = .ok (.ireturn, 1) := by decide +kernel
theorem d_CM_state_84 : decode b_CM_state 84 = .ok (.aload_n 0, 1) := by decide +kernel
theorem d_CM_state_85 : decode b_CM_state 85 = .ok (.getfield 38, 3) := by decide +kernel
theorem d_CM_state_88 : decode b_CM_state 88 = .ok (.getfield 116, 3) := by decide +kernel
theorem d_CM_state_91 : decode b_CM_state 91 = .ok (.ifCond .eq 7, 3) := by decide +kernel
theorem d_CM_state_94 : decode b_CM_state 94 = .ok (.iconst 1, 1) := by decide +kernel
theorem d_CM_state_95 : decode b_CM_state 95 = .ok (.goto 4, 3) := by decide +kernel
theorem d_CM_state_98 : decode b_CM_state 98 = .ok (.iconst 0, 1) := by decide +kernel
theorem d_CM_state_99 : decode b_CM_state 99 = .ok (.ireturn, 1) := by decide +kernel
theorem d_CM_state_100 : decode b_CM_state 100 = .ok (.aload_n 0, 1) := by decide +kernel
theorem d_CM_state_101 : decode b_CM_state 101 = .ok (.getfield 38, 3) := by decide +kernel
theorem d_CM_state_104 : decode b_CM_state 104 = .ok (.getfield 120, 3) := by decide +kernel
theorem d_CM_state_107 : decode b_CM_state 107 = .ok (.ifCond .eq 7, 3) := by decide +kernel
theorem d_CM_state_110 : decode b_CM_state 110 = .ok (.iconst 1, 1) := by decide +kernel
theorem d_CM_state_111 : decode b_CM_state 111 = .ok (.goto 4, 3) := by decide +kernel
theorem d_CM_state_114 : decode b_CM_state 114 = .ok (.iconst 0, 1) := by decide +kernel
theorem d_CM_state_115 : decode b_CM_state 115 = .ok (.ireturn, 1) := by decide +kernel
theorem d_CM_state_116 : decode b_CM_state 116 = .ok (.aload_n 0, 1) := by decide +kernel
theorem d_CM_state_117 : decode b_CM_state 117 = .ok (.getfield 91, 3) := by decide +kernel
theorem d_CM_state_120 : decode b_CM_state 120 = .ok (.ireturn, 1) := by decide +kernel
theorem d_CM_state_121 : decode b_CM_state 121 = .ok (.aload_n 0, 1) := by decide +kernel
theorem d_CM_state_122 : decode b_CM_state 122 = .ok (.getfield 94, 3) := by decide +kernel
theorem d_CM_state_125 : decode b_CM_state 125 = .ok (.ireturn, 1) := by decide +kernel
theorem d_CM_state_126 : decode b_CM_state 126 = .ok (.aload_n 0, 1) := by decide +kernel
theorem d_CM_state_127 : decode b_CM_state 127 = .ok (.getfield 14, 3) := by decide +kernel
theorem d_CM_state_130 : decode b_CM_state 130 = .ok (.invokevirtual 57, 3) := by decide +kernel
theorem d_CM_state_133 : decode b_CM_state 133 = .ok (.ireturn, 1) := by decide +kernel
theorem d_CM_state_134 : decode b_CM_state 134 = .ok (.iconst (-1), 1) := by decide +kernel
theorem d_CM_state_135 : decode b_CM_state 135 = .ok (.ireturn, 1) := by decide +kernel
theorem d_CM_printed_0 : decode b_CM_printed 0 = .ok (.aload_n 0, 1) := by decide +kernel
theorem d_CM_printed_1 : decode b_CM_printed 1 = .ok (.getfield 27, 3) := by decide +kernel
theorem d_CM_printed_4 : decode b_CM_printed 4 = .ok (.iload_n 1, 1) := by decide +kernel
theorem d_CM_printed_5 : decode b_CM_printed 5 = .ok (.iload_n 2, 1) := by decide +kernel
theorem d_CM_printed_6 : decode b_CM_printed 6 = .ok (.invokevirtual 123, 3) := by decide +kernel
theorem d_CM_printed_9 : decode b_CM_printed 9 = .ok (.ifCond .ne 11, 3) := by decide +kernel
theorem d_CM_printed_12 : decode b_CM_printed 12 = .ok (.new 97, 3) := by decide +kernel
theorem d_CM_printed_15 : decode b_CM_printed 15 = .ok (.dup, 1) := by decide +kernel
theorem d_CM_printed_16 : decode b_CM_printed 16 = .ok (.invokespecial 99, 3) := by decide +kernel
theorem d_CM_printed_19 : decode b_CM_printed 19 = .ok (.athrow, 1) := by decide +kernel
theorem d_CM_printed_20 : decode b_CM_printed 20 = .ok (.aload_n 0, 1) := by decide +kernel
theorem d_CM_printed_21 : decode b_CM_printed 21 = .ok (.getfield 27, 3) := by decide +kernel
theorem d_CM_printed_24 : decode b_CM_printed 24 = .ok (.iload_n 1, 1) := by decide +kernel
theorem d_CM_printed_25 : decode b_CM_printed 25 = .ok (.iload_n 2, 1) := by decide +kernel
theorem d_CM_printed_26 : decode b_CM_printed 26 = .ok (.invokevirtual 127, 3) := by decide +kernel
theorem d_CM_printed_29 : decode b_CM_printed 29 = .ok (.ireturn, 1) := by decide +kernel
theorem d_CM_punched_0 : decode b_CM_punched 0 = .ok (.aload_n 0, 1) := by decide +kernel
theorem d_CM_punched_1 : decode b_CM_punched 1 = .ok (.getfield 30, 3) := by decide +kernel
theorem d_CM_punched_4 : decode b_CM_punched 4 = .ok (.iload_n 1, 1) := by decide +kernel
theorem d_CM_punched_5 : decode b_CM_punched 5 = .ok (.iload_n 2, 1) := by decide +kernel
theorem d_CM_punched_6 : decode b_CM_punched 6 = .ok (.invokevirtual 123, 3) := by decide +kernel
theorem d_CM_punched_9 : decode b_CM_punched 9 = .ok (.ifCond .ne 11, 3) := by decide +kernel
theorem d_CM_punched_12 : decode b_CM_punched 12 = .ok (.new 97, 3) := by decide +kernel
theorem d_CM_punched_15 : decode b_CM_punched 15 = .ok (.dup, 1) := by decide +kernel
theorem d_CM_punched_16 : decode b_CM_punched 16 = .ok (.invokespecial 99, 3) := by decide +kernel
theorem d_CM_punched_19 : decode b_CM_punched 19 = .ok (.athrow, 1) := by decide +kernel
theorem d_CM_punched_20 : decode b_CM_punched 20 = .ok (.aload_n 0, 1) := by decide +kernel
theorem d_CM_punched_21 : decode b_CM_punched 21 = .ok (.getfield 30, 3) := by decide +kernel
theorem d_CM_punched_24 : decode b_CM_punched 24 = .ok (.iload_n 1, 1) := by decide +kernel
theorem d_CM_punched_25 : decode b_CM_punched 25 = .ok (.iload_n 2, 1) := by decide +kernel
theorem d_CM_punched_26 : decode b_CM_punched 26 = .ok (.invokevirtual 127, 3) := by decide +kernel
theorem d_CM_punched_29 : decode b_CM_punched 29 = .ok (.ireturn, 1) := by decide +kernel
theorem d_CM_number_0 : decode b_CM_number 0 = .ok (.aload_n 0, 1) := by decide +kernel
theorem d_CM_number_1 : decode b_CM_number 1 = .ok (.getfield 14, 3) := by decide +kernel
theorem d_CM_number_4 : decode b_CM_number 4 = .ok (.iload_n 1, 1) := by decide +kernel
theorem d_CM_number_5 : decode b_CM_number 5 = .ok (.invokevirtual 130, 3) := by decide +kernel
theorem d_CM_number_8 : decode b_CM_number 8 = .ok (.istore_n 2, 1) := by decide +kernel
theorem d_CM_number_9 : decode b_CM_number 9 = .ok (.iload_n 2, 1) := by decide +kernel
theorem d_CM_number_10 : decode b_CM_number 10 = .ok (.iconst (-1), 1) := by decide +kernel
theorem d_CM_number_11 : decode b_CM_number 11 = .ok (.if_icmp .ne 11, 3) := by decide +kernel
theorem d_CM_number_14 : decode b_CM_number 14 = .ok (.new 97, 3) := by decide +kernel
theorem d_CM_number_17 : decode b_CM_number 17 = .ok (.dup, 1) := by decide +kernel
theorem d_CM_number_18 : decode b_CM_number 18 = .ok (.invokespecial 99, 3) := by decide +kernel
theorem d_CM_number_21 : decode b_CM_number 21 = .ok (.athrow, 1) := by decide +kernel
theorem d_CM_number_22 : decode b_CM_number 22 = .ok (.iload_n 2, 1) := by decide +kernel
theorem d_CM_number_23 : decode b_CM_number 23 = .ok (.bipush 18, 2) := by decide +kernel
theorem d_CM_number_25 : decode b_CM_number 25 = .ok (.if_icmp .le 11, 3) := by decide +kernel
theorem d_CM_number_28 : decode b_CM_number 28 = .ok (.new 133, 3) := by decide +kernel
theorem d_CM_number_31 : decode b_CM_number 31 = .ok (.dup, 1) := by decide +kernel
theorem d_CM_number_32 : decode b_CM_number 32 = .ok (.invokespecial 135, 3) := by decide +kernel
theorem d_CM_number_35 : decode b_CM_number 35 = .ok (.athrow, 1) := by decide +kernel
theorem d_CM_number_36 : decode b_CM_number 36 = .ok (.lconst 0, 1) := by decide +kernel
theorem d_CM_number_37 : decode b_CM_number 37 = .ok (.lstore_n 3, 1) := by decide +kernel
theorem d_CM_number_38 : decode b_CM_number 38 = .ok (.iload_n 2, 1) := by decide +kernel
theorem d_CM_number_39 : decode b_CM_number 39 = .ok (.iconst 1, 1) := by decide +kernel
theorem d_CM_number_40 : decode b_CM_number 40 = .ok (.isub, 1) := by decide +kernel
theorem d_CM_number_41 : decode b_CM_number 41 = .ok (.istore 5, 2) := by decide +kernel
theorem d_CM_number_43 : decode b_CM_number 43 = .ok (.iload 5, 2) := by decide +kernel
theorem d_CM_number_45 : decode b_CM_number 45 = .ok (.ifCond .lt 28, 3) := by decide +kernel
theorem d_CM_number_48 : decode b_CM_number 48 = .ok (.lload_n 3, 1) := by decide +kernel
theorem d_CM_number_49 : decode b_CM_number 49 = .ok (.ldc2_w 136, 3) := by decide +kernel
theorem d_CM_number_52 : decode b_CM_number 52 = .ok (.lmul, 1) := by decide +kernel
theorem d_CM_number_53 : decode b_CM_number 53 = .ok (.aload_n 0, 1) := by decide +kernel
theorem d_CM_number_54 : decode b_CM_number 54 = .ok (.getfield 14, 3) := by decide +kernel
theorem d_CM_number_57 : decode b_CM_number 57 = .ok (.iload_n 1, 1) := by decide +kernel
theorem d_CM_number_58 : decode b_CM_number 58 = .ok (.iload 5, 2) := by decide +kernel
theorem d_CM_number_60 : decode b_CM_number 60 = .ok (.isub, 1) := by decide +kernel
theorem d_CM_number_61 : decode b_CM_number 61 = .ok (.invokevirtual 138, 3) := by decide +kernel
theorem d_CM_number_64 : decode b_CM_number 64 = .ok (.i2l, 1) := by decide +kernel
theorem d_CM_number_65 : decode b_CM_number 65 = .ok (.ladd, 1) := by decide +kernel
theorem d_CM_number_66 : decode b_CM_number 66 = .ok (.lstore_n 3, 1) := by decide +kernel
theorem d_CM_number_67 : decode b_CM_number 67 = .ok (.iinc 5 (-1), 3) := by decide +kernel
theorem d_CM_number_70 : decode b_CM_number 70 = .ok (.goto (-27), 3) := by decide +kernel
theorem d_CM_number_73 : decode b_CM_number 73 = .ok (.aload_n 0, 1) := by decide +kernel
theorem d_CM_number_74 : decode b_CM_number 74 = .ok (.getfield 14, 3) := by decide +kernel
theorem d_CM_number_77 : decode b_CM_number 77 = .ok (.iload_n 1, 1) := by decide +kernel
theorem d_CM_number_78 : decode b_CM_number 78 = .ok (.invokevirtual 141, 3) := by decide +kernel
theorem d_CM_number_81 : decode b_CM_number 81 = .ok (.ifCond .eq 8, 3) := by decide +kernel
theorem d_CM_number_84 : decode b_CM_number 84 = .ok (.lload_n 3, 1) := by decide +kernel
theorem d_CM_number_85 : decode b_CM_number 85 = .ok (.lneg, 1) := by decide +kernel
theorem d_CM_number_86 : decode b_CM_number 86 = .ok (.goto 4, 3) := by decide +kernel
theorem d_CM_number_89 : decode b_CM_number 89 = .ok (.lload_n 3, 1) := by decide +kernel
theorem d_CM_number_90 : decode b_CM_number 90 = .ok (.lreturn, 1) := by decide +kernel
theorem d_CM_count_0 : decode b_CM_count 0 = .ok (.iload_n 1, 1) := by decide +kernel
theorem d_CM_count_1 : decode b_CM_count 1 = .ok (.tableswitch 63 0 3 #[31, 39, 47, 55], 31) := by decide +kernel
theorem d_CM_count_32 : decode b_CM_count 32 = .ok (.aload_n 0, 1) := by decide +kernel
theorem d_CM_count_33 : decode b_CM_count 33 = .ok (.getfield 38, 3) := by decide +kernel
theorem d_CM_count_36 : decode b_CM_count 36 = .ok (.invokevirtual 81, 3) := by decide +kernel
theorem d_CM_count_39 : decode b_CM_count 39 = .ok (.ireturn, 1) := by decide +kernel
theorem d_CM_count_40 : decode b_CM_count 40 = .ok (.aload_n 0, 1) := by decide +kernel
theorem d_CM_count_41 : decode b_CM_count 41 = .ok (.getfield 27, 3) := by decide +kernel
theorem d_CM_count_44 : decode b_CM_count 44 = .ok (.invokevirtual 144, 3) := by decide +kernel
theorem d_CM_count_47 : decode b_CM_count 47 = .ok (.ireturn, 1) := by decide +kernel
theorem d_CM_count_48 : decode b_CM_count 48 = .ok (.aload_n 0, 1) := by decide +kernel
theorem d_CM_count_49 : decode b_CM_count 49 = .ok (.getfield 30, 3) := by decide +kernel
theorem d_CM_count_52 : decode b_CM_count 52 = .ok (.invokevirtual 144, 3) := by decide +kernel
theorem d_CM_count_55 : decode b_CM_count 55 = .ok (.ireturn, 1) := by decide +kernel
theorem d_CM_count_56 : decode b_CM_count 56 = .ok (.aload_n 0, 1) := by decide +kernel
theorem d_CM_count_57 : decode b_CM_count 57 = .ok (.getfield 14, 3) := by decide +kernel
theorem d_CM_count_60 : decode b_CM_count 60 = .ok (.invokevirtual 147, 3) := by decide +kernel
theorem d_CM_count_63 : decode b_CM_count 63 = .ok (.ireturn, 1) := by decide +kernel
theorem d_CM_count_64 : decode b_CM_count 64 = .ok (.iconst (-1), 1) := by decide +kernel
theorem d_CM_count_65 : decode b_CM_count 65 = .ok (.ireturn, 1) := by decide +kernel
theorem d_CM_isCharacter_0 : decode b_CM_isCharacter 0 = .ok (.iload_n 0, 1) := by decide +kernel
theorem d_CM_isCharacter_1 : decode b_CM_isCharacter 1 = .ok (.ifCond .lt 13, 3) := by decide +kernel
theorem d_CM_isCharacter_4 : decode b_CM_isCharacter 4 = .ok (.iload_n 0, 1) := by decide +kernel
theorem d_CM_isCharacter_5 : decode b_CM_isCharacter 5 = .ok (.bipush 64, 2) := by decide +kernel
theorem d_CM_isCharacter_7 : decode b_CM_isCharacter 7 = .ok (.if_icmp .ge 7, 3) := by decide +kernel
theorem d_CM_isCharacter_10 : decode b_CM_isCharacter 10 = .ok (.iconst 1, 1) := by decide +kernel
theorem d_CM_isCharacter_11 : decode b_CM_isCharacter 11 = .ok (.goto 4, 3) := by decide +kernel
theorem d_CM_isCharacter_14 : decode b_CM_isCharacter 14 = .ok (.iconst 0, 1) := by decide +kernel
theorem d_CM_isCharacter_15 : decode b_CM_isCharacter 15 = .ok (.ireturn, 1) := by decide +kernel
theorem d_CM_byteOf_0 : decode b_CM_byteOf 0 = .ok (.lload_n 0, 1) := by decide +kernel
theorem d_CM_byteOf_1 : decode b_CM_byteOf 1 = .ok (.bipush 56, 2) := by decide +kernel
theorem d_CM_byteOf_3 : decode b_CM_byteOf 3 = .ok (.bipush 8, 2) := by decide +kernel
theorem d_CM_byteOf_5 : decode b_CM_byteOf 5 = .ok (.iload_n 2, 1) := by decide +kernel
theorem d_CM_byteOf_6 : decode b_CM_byteOf 6 = .ok (.imul, 1) := by decide +kernel
theorem d_CM_byteOf_7 : decode b_CM_byteOf 7 = .ok (.isub, 1) := by decide +kernel
theorem d_CM_byteOf_8 : decode b_CM_byteOf 8 = .ok (.lushr, 1) := by decide +kernel
theorem d_CM_byteOf_9 : decode b_CM_byteOf 9 = .ok (.ldc2_w 150, 3) := by decide +kernel
theorem d_CM_byteOf_12 : decode b_CM_byteOf 12 = .ok (.land, 1) := by decide +kernel
theorem d_CM_byteOf_13 : decode b_CM_byteOf 13 = .ok (.l2i, 1) := by decide +kernel
theorem d_CM_byteOf_14 : decode b_CM_byteOf 14 = .ok (.ireturn, 1) := by decide +kernel
theorem d_CM_charactersIn_0 : decode b_CM_charactersIn 0 = .ok (.iconst 0, 1) := by decide +kernel
theorem d_CM_charactersIn_1 : decode b_CM_charactersIn 1 = .ok (.istore_n 2, 1) := by decide +kernel
theorem d_CM_charactersIn_2 : decode b_CM_charactersIn 2 = .ok (.iload_n 2, 1) := by decide +kernel
theorem d_CM_charactersIn_3 : decode b_CM_charactersIn 3 = .ok (.bipush 8, 2) := by decide +kernel
theorem d_CM_charactersIn_5 : decode b_CM_charactersIn 5 = .ok (.if_icmp .ge 20, 3) := by decide +kernel
theorem d_CM_charactersIn_8 : decode b_CM_charactersIn 8 = .ok (.lload_n 0, 1) := by decide +kernel
theorem d_CM_charactersIn_9 : decode b_CM_charactersIn 9 = .ok (.iload_n 2, 1) := by decide +kernel
theorem d_CM_charactersIn_10 : decode b_CM_charactersIn 10 = .ok (.invokestatic 64, 3) := by decide +kernel
theorem d_CM_charactersIn_13 : decode b_CM_charactersIn 13 = .ok (.invokestatic 46, 3) := by decide +kernel
theorem d_CM_charactersIn_16 : decode b_CM_charactersIn 16 = .ok (.ifCond .eq 9, 3) := by decide +kernel
theorem d_CM_charactersIn_19 : decode b_CM_charactersIn 19 = .ok (.iinc 2 1, 3) := by decide +kernel
theorem d_CM_charactersIn_22 : decode b_CM_charactersIn 22 = .ok (.goto (-20), 3) := by decide +kernel
theorem d_CM_charactersIn_25 : decode b_CM_charactersIn 25 = .ok (.iload_n 2, 1) := by decide +kernel
theorem d_CM_charactersIn_26 : decode b_CM_charactersIn 26 = .ok (.ireturn, 1) := by decide +kernel
theorem d_CM_written_0 : decode b_CM_written 0 = .ok (.iload_n 0, 1) := by decide +kernel
theorem d_CM_written_1 : decode b_CM_written 1 = .ok (.ifCond .ne 8, 3) := by decide +kernel
theorem d_CM_written_4 : decode b_CM_written 4 = .ok (.bipush 10, 2) := by decide +kernel
theorem d_CM_written_6 : decode b_CM_written 6 = .ok (.goto 4, 3) := by decide +kernel
theorem d_CM_written_9 : decode b_CM_written 9 = .ok (.iload_n 0, 1) := by decide +kernel
theorem d_CM_written_10 : decode b_CM_written 10 = .ok (.ireturn, 1) := by decide +kernel
theorem d_CM_signZone_0 : decode b_CM_signZone 0 = .ok (.iload_n 0, 1) := by decide +kernel
theorem d_CM_signZone_1 : decode b_CM_signZone 1 = .ok (.ifCond .eq 8, 3) := by decide +kernel
theorem d_CM_signZone_4 : decode b_CM_signZone 4 = .ok (.bipush 32, 2) := by decide +kernel
theorem d_CM_signZone_6 : decode b_CM_signZone 6 = .ok (.goto 5, 3) := by decide +kernel
theorem d_CM_signZone_9 : decode b_CM_signZone 9 = .ok (.bipush 48, 2) := by decide +kernel
theorem d_CM_signZone_11 : decode b_CM_signZone 11 = .ok (.ireturn, 1) := by decide +kernel
