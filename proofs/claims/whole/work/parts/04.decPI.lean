theorem d_PI_init_0 : decode b_PI_init 0 = .ok (.aload_n 0, 1) := by decide +kernel
theorem d_PI_init_1 : decode b_PI_init 1 = .ok (.invokespecial 1, 3) := by decide +kernel
theorem d_PI_init_4 : decode b_PI_init 4 = .ok (.aload_n 0, 1) := by decide +kernel
theorem d_PI_init_5 : decode b_PI_init 5 = .ok (.iload_n 1, 1) := by decide +kernel
theorem d_PI_init_6 : decode b_PI_init 6 = .ok (.putfield 7, 3) := by decide +kernel
theorem d_PI_init_9 : decode b_PI_init 9 = .ok (.aload_n 0, 1) := by decide +kernel
theorem d_PI_init_10 : decode b_PI_init 10 = .ok (.iload_n 2, 1) := by decide +kernel
theorem d_PI_init_11 : decode b_PI_init 11 = .ok (.putfield 13, 3) := by decide +kernel
theorem d_PI_init_14 : decode b_PI_init 14 = .ok (.aload_n 0, 1) := by decide +kernel
theorem d_PI_init_15 : decode b_PI_init 15 = .ok (.iload_n 1, 1) := by decide +kernel
theorem d_PI_init_16 : decode b_PI_init 16 = .ok (.iconst 1, 1) := by decide +kernel
theorem d_PI_init_17 : decode b_PI_init 17 = .ok (.iadd, 1) := by decide +kernel
theorem d_PI_init_18 : decode b_PI_init 18 = .ok (.iload_n 2, 1) := by decide +kernel
theorem d_PI_init_19 : decode b_PI_init 19 = .ok (.imul, 1) := by decide +kernel
theorem d_PI_init_20 : decode b_PI_init 20 = .ok (.newarray .int, 2) := by decide +kernel
theorem d_PI_init_22 : decode b_PI_init 22 = .ok (.putfield 16, 3) := by decide +kernel
theorem d_PI_init_25 : decode b_PI_init 25 = .ok (.return_, 1) := by decide +kernel
theorem d_PI_filled_0 : decode b_PI_filled 0 = .ok (.aload_n 0, 1) := by decide +kernel
theorem d_PI_filled_1 : decode b_PI_filled 1 = .ok (.getfield 20, 3) := by decide +kernel
theorem d_PI_filled_4 : decode b_PI_filled 4 = .ok (.ireturn, 1) := by decide +kernel
theorem d_PI_isFull_0 : decode b_PI_isFull 0 = .ok (.aload_n 0, 1) := by decide +kernel
theorem d_PI_isFull_1 : decode b_PI_isFull 1 = .ok (.getfield 20, 3) := by decide +kernel
theorem d_PI_isFull_4 : decode b_PI_isFull 4 = .ok (.aload_n 0, 1) := by decide +kernel
theorem d_PI_isFull_5 : decode b_PI_isFull 5 = .ok (.getfield 7, 3) := by decide +kernel
theorem d_PI_isFull_8 : decode b_PI_isFull 8 = .ok (.if_icmp .lt 7, 3) := by decide +kernel
theorem d_PI_isFull_11 : decode b_PI_isFull 11 = .ok (.iconst 1, 1) := by decide +kernel
theorem d_PI_isFull_12 : decode b_PI_isFull 12 = .ok (.goto 4, 3) := by decide +kernel
theorem d_PI_isFull_15 : decode b_PI_isFull 15 = .ok (.iconst 0, 1) := by decide +kernel
theorem d_PI_isFull_16 : decode b_PI_isFull 16 = .ok (.ireturn, 1) := by decide +kernel
theorem d_PI_holds_0 : decode b_PI_holds 0 = .ok (.iload_n 1, 1) := by decide +kernel
theorem d_PI_holds_1 : decode b_PI_holds 1 = .ok (.ifCond .lt 28, 3) := by decide +kernel
theorem d_PI_holds_4 : decode b_PI_holds 4 = .ok (.iload_n 1, 1) := by decide +kernel
theorem d_PI_holds_5 : decode b_PI_holds 5 = .ok (.aload_n 0, 1) := by decide +kernel
theorem d_PI_holds_6 : decode b_PI_holds 6 = .ok (.getfield 20, 3) := by decide +kernel
theorem d_PI_holds_9 : decode b_PI_holds 9 = .ok (.if_icmp .ge 20, 3) := by decide +kernel
theorem d_PI_holds_12 : decode b_PI_holds 12 = .ok (.iload_n 2, 1) := by decide +kernel
theorem d_PI_holds_13 : decode b_PI_holds 13 = .ok (.iconst 1, 1) := by decide +kernel
theorem d_PI_holds_14 : decode b_PI_holds 14 = .ok (.if_icmp .lt 15, 3) := by decide +kernel
theorem d_PI_holds_17 : decode b_PI_holds 17 = .ok (.iload_n 2, 1) := by decide +kernel
theorem d_PI_holds_18 : decode b_PI_holds 18 = .ok (.aload_n 0, 1) := by decide +kernel
theorem d_PI_holds_19 : decode b_PI_holds 19 = .ok (.getfield 13, 3) := by decide +kernel
theorem d_PI_holds_22 : decode b_PI_holds 22 = .ok (.if_icmp .gt 7, 3) := by decide +kernel
theorem d_PI_holds_25 : decode b_PI_holds 25 = .ok (.iconst 1, 1) := by decide +kernel
theorem d_PI_holds_26 : decode b_PI_holds 26 = .ok (.goto 4, 3) := by decide +kernel
theorem d_PI_holds_29 : decode b_PI_holds 29 = .ok (.iconst 0, 1) := by decide +kernel
theorem d_PI_holds_30 : decode b_PI_holds 30 = .ok (.ireturn, 1) := by decide +kernel
theorem d_PI_character_0 : decode b_PI_character 0 = .ok (.aload_n 0, 1) := by decide +kernel
theorem d_PI_character_1 : decode b_PI_character 1 = .ok (.getfield 16, 3) := by decide +kernel
theorem d_PI_character_4 : decode b_PI_character 4 = .ok (.iload_n 1, 1) := by decide +kernel
theorem d_PI_character_5 : decode b_PI_character 5 = .ok (.aload_n 0, 1) := by decide +kernel
theorem d_PI_character_6 : decode b_PI_character 6 = .ok (.getfield 13, 3) := by decide +kernel
theorem d_PI_character_9 : decode b_PI_character 9 = .ok (.imul, 1) := by decide +kernel
theorem d_PI_character_10 : decode b_PI_character 10 = .ok (.iload_n 2, 1) := by decide +kernel
theorem d_PI_character_11 : decode b_PI_character 11 = .ok (.iadd, 1) := by decide +kernel
theorem d_PI_character_12 : decode b_PI_character 12 = .ok (.iconst 1, 1) := by decide +kernel
theorem d_PI_character_13 : decode b_PI_character 13 = .ok (.isub, 1) := by decide +kernel
theorem d_PI_character_14 : decode b_PI_character 14 = .ok (.iaload, 1) := by decide +kernel
theorem d_PI_character_15 : decode b_PI_character 15 = .ok (.ireturn, 1) := by decide +kernel
theorem d_PI_write_0 : decode b_PI_write 0 = .ok (.aload_n 0, 1) := by decide +kernel
theorem d_PI_write_1 : decode b_PI_write 1 = .ok (.getfield 16, 3) := by decide +kernel
theorem d_PI_write_4 : decode b_PI_write 4 = .ok (.aload_n 0, 1) := by decide +kernel
theorem d_PI_write_5 : decode b_PI_write 5 = .ok (.getfield 20, 3) := by decide +kernel
theorem d_PI_write_8 : decode b_PI_write 8 = .ok (.aload_n 0, 1) := by decide +kernel
theorem d_PI_write_9 : decode b_PI_write 9 = .ok (.getfield 13, 3) := by decide +kernel
theorem d_PI_write_12 : decode b_PI_write 12 = .ok (.imul, 1) := by decide +kernel
theorem d_PI_write_13 : decode b_PI_write 13 = .ok (.iload_n 1, 1) := by decide +kernel
theorem d_PI_write_14 : decode b_PI_write 14 = .ok (.iadd, 1) := by decide +kernel
theorem d_PI_write_15 : decode b_PI_write 15 = .ok (.iconst 1, 1) := by decide +kernel
theorem d_PI_write_16 : decode b_PI_write 16 = .ok (.isub, 1) := by decide +kernel
theorem d_PI_write_17 : decode b_PI_write 17 = .ok (.iload_n 2, 1) := by decide +kernel
theorem d_PI_write_18 : decode b_PI_write 18 = .ok (.iastore, 1) := by decide +kernel
theorem d_PI_write_19 : decode b_PI_write 19 = .ok (.return_, 1) := by decide +kernel
theorem d_PI_close_0 : decode b_PI_close 0 = .ok (.aload_n 0, 1) := by decide +kernel
theorem d_PI_close_1 : decode b_PI_close 1 = .ok (.dup, 1) := by decide +kernel
theorem d_PI_close_2 : decode b_PI_close 2 = .ok (.getfield 20, 3) := by decide +kernel
theorem d_PI_close_5 : decode b_PI_close 5 = .ok (.iconst 1, 1) := by decide +kernel
theorem d_PI_close_6 : decode b_PI_close 6 = .ok (.iadd, 1) := by decide +kernel
theorem d_PI_close_7 : decode b_PI_close 7 = .ok (.putfield 20, 3) := by decide +kernel
theorem d_PI_close_10 : decode b_PI_close 10 = .ok (.return_, 1) := by decide +kernel
theorem d_PI_copy_0 : decode b_PI_copy 0 = .ok (.iconst 1, 1) := by decide +kernel
theorem d_PI_copy_1 : decode b_PI_copy 1 = .ok (.istore_n 3, 1) := by decide +kernel
theorem d_PI_copy_2 : decode b_PI_copy 2 = .ok (.iload_n 3, 1) := by decide +kernel
theorem d_PI_copy_3 : decode b_PI_copy 3 = .ok (.aload_n 0, 1) := by decide +kernel
theorem d_PI_copy_4 : decode b_PI_copy 4 = .ok (.getfield 13, 3) := by decide +kernel
theorem d_PI_copy_7 : decode b_PI_copy 7 = .ok (.if_icmp .gt 23, 3) := by decide +kernel
theorem d_PI_copy_10 : decode b_PI_copy 10 = .ok (.aload_n 0, 1) := by decide +kernel
theorem d_PI_copy_11 : decode b_PI_copy 11 = .ok (.iload_n 3, 1) := by decide +kernel
theorem d_PI_copy_12 : decode b_PI_copy 12 = .ok (.aload_n 1, 1) := by decide +kernel
theorem d_PI_copy_13 : decode b_PI_copy 13 = .ok (.iload_n 2, 1) := by decide +kernel
theorem d_PI_copy_14 : decode b_PI_copy 14 = .ok (.iload_n 3, 1) := by decide +kernel
theorem d_PI_copy_15 : decode b_PI_copy 15 = .ok (.iadd, 1) := by decide +kernel
theorem d_PI_copy_16 : decode b_PI_copy 16 = .ok (.iconst 1, 1) := by decide +kernel
theorem d_PI_copy_17 : decode b_PI_copy 17 = .ok (.isub, 1) := by decide +kernel
theorem d_PI_copy_18 : decode b_PI_copy 18 = .ok (.invokevirtual 23, 3) := by decide +kernel
theorem d_PI_copy_21 : decode b_PI_copy 21 = .ok (.invokevirtual 29, 3) := by decide +kernel
theorem d_PI_copy_24 : decode b_PI_copy 24 = .ok (.iinc 3 1, 3) := by decide +kernel
theorem d_PI_copy_27 : decode b_PI_copy 27 = .ok (.goto (-25), 3) := by decide +kernel
theorem d_PI_copy_30 : decode b_PI_copy 30 = .ok (.aload_n 0, 1) := by decide +kernel
theorem d_PI_copy_31 : decode b_PI_copy 31 = .ok (.invokevirtual 33, 3) := by decide +kernel
theorem d_PI_copy_34 : decode b_PI_copy 34 = .ok (.return_, 1) := by decide +kernel
