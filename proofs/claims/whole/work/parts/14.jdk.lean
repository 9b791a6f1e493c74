def R_JM : String := "java/lang/Math"
abbrev b_JM_floorMod : ByteArray := prog_13_method_50_code
def y_JM_floorMod : MethodName := ⟨R_JM, "floorMod", "(II)I"⟩
theorem k_JM_floorMod : okS y_JM_floorMod b_JM_floorMod 3 (some .int) 2 := ⟨tw_542, tw_541, tw_12, by decide +kernel, by decide +kernel, by decide +kernel⟩
theorem d_JM_floorMod_0 : decode b_JM_floorMod 0 = .ok (.iload_n 0, 1) := by decide +kernel
theorem d_JM_floorMod_1 : decode b_JM_floorMod 1 = .ok (.iload_n 1, 1) := by decide +kernel
theorem d_JM_floorMod_2 : decode b_JM_floorMod 2 = .ok (.irem, 1) := by decide +kernel
theorem d_JM_floorMod_3 : decode b_JM_floorMod 3 = .ok (.istore_n 2, 1) := by decide +kernel
theorem d_JM_floorMod_4 : decode b_JM_floorMod 4 = .ok (.iload_n 0, 1) := by decide +kernel
theorem d_JM_floorMod_5 : decode b_JM_floorMod 5 = .ok (.iload_n 1, 1) := by decide +kernel
theorem d_JM_floorMod_6 : decode b_JM_floorMod 6 = .ok (.ixor, 1) := by decide +kernel
theorem d_JM_floorMod_7 : decode b_JM_floorMod 7 = .ok (.ifCond .ge 11, 3) := by decide +kernel
theorem d_JM_floorMod_10 : decode b_JM_floorMod 10 = .ok (.iload_n 2, 1) := by decide +kernel
theorem d_JM_floorMod_11 : decode b_JM_floorMod 11 = .ok (.ifCond .eq 7, 3) := by decide +kernel
theorem d_JM_floorMod_14 : decode b_JM_floorMod 14 = .ok (.iload_n 2, 1) := by decide +kernel
theorem d_JM_floorMod_15 : decode b_JM_floorMod 15 = .ok (.iload_n 1, 1) := by decide +kernel
theorem d_JM_floorMod_16 : decode b_JM_floorMod 16 = .ok (.iadd, 1) := by decide +kernel
theorem d_JM_floorMod_17 : decode b_JM_floorMod 17 = .ok (.ireturn, 1) := by decide +kernel
theorem d_JM_floorMod_18 : decode b_JM_floorMod 18 = .ok (.iload_n 2, 1) := by decide +kernel
theorem d_JM_floorMod_19 : decode b_JM_floorMod 19 = .ok (.ireturn, 1) := by decide +kernel
def R_JI : String := "java/lang/Integer"
abbrev b_JI_compare : ByteArray := prog_12_method_40_code
def y_JI_compare : MethodName := ⟨R_JI, "compare", "(II)I"⟩
theorem k_JI_compare : okS y_JI_compare b_JI_compare 2 (some .int) 2 := ⟨tw_460, tw_459, tw_14, by decide +kernel, by decide +kernel, by decide +kernel⟩
theorem d_JI_compare_0 : decode b_JI_compare 0 = .ok (.iload_n 0, 1) := by decide +kernel
theorem d_JI_compare_1 : decode b_JI_compare 1 = .ok (.iload_n 1, 1) := by decide +kernel
theorem d_JI_compare_2 : decode b_JI_compare 2 = .ok (.if_icmp .ge 7, 3) := by decide +kernel
theorem d_JI_compare_5 : decode b_JI_compare 5 = .ok (.iconst (-1), 1) := by decide +kernel
theorem d_JI_compare_6 : decode b_JI_compare 6 = .ok (.goto 13, 3) := by decide +kernel
theorem d_JI_compare_9 : decode b_JI_compare 9 = .ok (.iload_n 0, 1) := by decide +kernel
theorem d_JI_compare_10 : decode b_JI_compare 10 = .ok (.iload_n 1, 1) := by decide +kernel
theorem d_JI_compare_11 : decode b_JI_compare 11 = .ok (.if_icmp .ne 7, 3) := by decide +kernel
theorem d_JI_compare_14 : decode b_JI_compare 14 = .ok (.iconst 0, 1) := by decide +kernel
theorem d_JI_compare_15 : decode b_JI_compare 15 = .ok (.goto 4, 3) := by decide +kernel
theorem d_JI_compare_18 : decode b_JI_compare 18 = .ok (.iconst 1, 1) := by decide +kernel
theorem d_JI_compare_19 : decode b_JI_compare 19 = .ok (.ireturn, 1) := by decide +kernel
