section
-- ===== PART A: goes FIRST, ahead of the names: the tables' words, and 'selects' of the private methods out of them =====
/-- a private method of a class that the tables say can be made, by its rows of tables_1 -/
def lw_okq (q : MethodName × Nat) : Prop := (q.1.cls ≠ "java/lang/invoke/MethodHandle" ∧ q.1.cls ≠ "java/lang/invoke/VarHandle") ∧ Cond.instantiable q.1.cls q.2 ∈ tables_1 ∧ Cond.privateMethod q.1 ∈ tables_1 ∧ Cond.instanceMethod q.1 ∈ tables_1
theorem lw_p0 : lw_okq (⟨"java/lang/Throwable", "fillInStackTrace", "(I)Ljava/lang/Throwable;"⟩, 6) := ⟨⟨by decide +kernel, by decide +kernel⟩, List.mem_of_getElem? (i := 254) (by decide +kernel), List.mem_of_getElem? (i := 252) (by decide +kernel), List.mem_of_getElem? (i := 253) (by decide +kernel)⟩
theorem lw_p1 : lw_okq (⟨"CharMachine$Processor", "instructionLength", "()I"⟩, 12) := ⟨⟨by decide +kernel, by decide +kernel⟩, List.mem_of_getElem? (i := 56) (by decide +kernel), List.mem_of_getElem? (i := 327) (by decide +kernel), List.mem_of_getElem? (i := 328) (by decide +kernel)⟩
theorem lw_p2 : lw_okq (⟨"CharMachine$Processor", "takeAddresses", "(II)V"⟩, 12) := ⟨⟨by decide +kernel, by decide +kernel⟩, List.mem_of_getElem? (i := 56) (by decide +kernel), List.mem_of_getElem? (i := 334) (by decide +kernel), List.mem_of_getElem? (i := 335) (by decide +kernel)⟩
theorem lw_p3 : lw_okq (⟨"CharMachine$Processor", "perform", "(III)I"⟩, 12) := ⟨⟨by decide +kernel, by decide +kernel⟩, List.mem_of_getElem? (i := 56) (by decide +kernel), List.mem_of_getElem? (i := 353) (by decide +kernel), List.mem_of_getElem? (i := 354) (by decide +kernel)⟩
theorem lw_p4 : lw_okq (⟨"CharMachine$Processor", "calculate", "(ZZ)I"⟩, 12) := ⟨⟨by decide +kernel, by decide +kernel⟩, List.mem_of_getElem? (i := 56) (by decide +kernel), List.mem_of_getElem? (i := 357) (by decide +kernel), List.mem_of_getElem? (i := 358) (by decide +kernel)⟩
theorem lw_p5 : lw_okq (⟨"CharMachine$Processor", "addSigned", "(IZ)V"⟩, 12) := ⟨⟨by decide +kernel, by decide +kernel⟩, List.mem_of_getElem? (i := 56) (by decide +kernel), List.mem_of_getElem? (i := 400) (by decide +kernel), List.mem_of_getElem? (i := 401) (by decide +kernel)⟩
theorem lw_p6 : lw_okq (⟨"CharMachine$Processor", "move", "()I"⟩, 12) := ⟨⟨by decide +kernel, by decide +kernel⟩, List.mem_of_getElem? (i := 56) (by decide +kernel), List.mem_of_getElem? (i := 417) (by decide +kernel), List.mem_of_getElem? (i := 418) (by decide +kernel)⟩
theorem lw_p7 : lw_okq (⟨"CharMachine$Processor", "load", "()I"⟩, 12) := ⟨⟨by decide +kernel, by decide +kernel⟩, List.mem_of_getElem? (i := 56) (by decide +kernel), List.mem_of_getElem? (i := 429) (by decide +kernel), List.mem_of_getElem? (i := 430) (by decide +kernel)⟩
theorem lw_p8 : lw_okq (⟨"CharMachine$Processor", "moveBits", "(I)I"⟩, 12) := ⟨⟨by decide +kernel, by decide +kernel⟩, List.mem_of_getElem? (i := 56) (by decide +kernel), List.mem_of_getElem? (i := 444) (by decide +kernel), List.mem_of_getElem? (i := 445) (by decide +kernel)⟩
theorem lw_p9 : lw_okq (⟨"CharMachine$Processor", "compare", "()I"⟩, 12) := ⟨⟨by decide +kernel, by decide +kernel⟩, List.mem_of_getElem? (i := 56) (by decide +kernel), List.mem_of_getElem? (i := 448) (by decide +kernel), List.mem_of_getElem? (i := 449) (by decide +kernel)⟩
theorem lw_p10 : lw_okq (⟨"CharMachine$Processor", "orderOf", "(I)I"⟩, 12) := ⟨⟨by decide +kernel, by decide +kernel⟩, List.mem_of_getElem? (i := 56) (by decide +kernel), List.mem_of_getElem? (i := 452) (by decide +kernel), List.mem_of_getElem? (i := 453) (by decide +kernel)⟩
theorem lw_p11 : lw_okq (⟨"CharMachine$Processor", "changeMarks", "(Z)I"⟩, 12) := ⟨⟨by decide +kernel, by decide +kernel⟩, List.mem_of_getElem? (i := 56) (by decide +kernel), List.mem_of_getElem? (i := 462) (by decide +kernel), List.mem_of_getElem? (i := 463) (by decide +kernel)⟩
theorem lw_p12 : lw_okq (⟨"CharMachine$Processor", "clear", "(Z)I"⟩, 12) := ⟨⟨by decide +kernel, by decide +kernel⟩, List.mem_of_getElem? (i := 56) (by decide +kernel), List.mem_of_getElem? (i := 471) (by decide +kernel), List.mem_of_getElem? (i := 472) (by decide +kernel)⟩
theorem lw_p13 : lw_okq (⟨"CharMachine$Processor", "goThere", "()V"⟩, 12) := ⟨⟨by decide +kernel, by decide +kernel⟩, List.mem_of_getElem? (i := 56) (by decide +kernel), List.mem_of_getElem? (i := 476) (by decide +kernel), List.mem_of_getElem? (i := 477) (by decide +kernel)⟩
theorem lw_p14 : lw_okq (⟨"CharMachine$Processor", "suppressZeros", "()I"⟩, 12) := ⟨⟨by decide +kernel, by decide +kernel⟩, List.mem_of_getElem? (i := 56) (by decide +kernel), List.mem_of_getElem? (i := 480) (by decide +kernel), List.mem_of_getElem? (i := 481) (by decide +kernel)⟩
theorem lw_p15 : lw_okq (⟨"CharMachine$Processor", "branch", "(I)I"⟩, 12) := ⟨⟨by decide +kernel, by decide +kernel⟩, List.mem_of_getElem? (i := 56) (by decide +kernel), List.mem_of_getElem? (i := 487) (by decide +kernel), List.mem_of_getElem? (i := 488) (by decide +kernel)⟩
def lw_privs_1 : List (MethodName × Nat) := [(⟨"java/lang/Throwable", "fillInStackTrace", "(I)Ljava/lang/Throwable;"⟩, 6), (⟨"CharMachine$Processor", "instructionLength", "()I"⟩, 12), (⟨"CharMachine$Processor", "takeAddresses", "(II)V"⟩, 12), (⟨"CharMachine$Processor", "perform", "(III)I"⟩, 12), (⟨"CharMachine$Processor", "calculate", "(ZZ)I"⟩, 12), (⟨"CharMachine$Processor", "addSigned", "(IZ)V"⟩, 12), (⟨"CharMachine$Processor", "move", "()I"⟩, 12), (⟨"CharMachine$Processor", "load", "()I"⟩, 12), (⟨"CharMachine$Processor", "moveBits", "(I)I"⟩, 12), (⟨"CharMachine$Processor", "compare", "()I"⟩, 12), (⟨"CharMachine$Processor", "orderOf", "(I)I"⟩, 12), (⟨"CharMachine$Processor", "changeMarks", "(Z)I"⟩, 12), (⟨"CharMachine$Processor", "clear", "(Z)I"⟩, 12), (⟨"CharMachine$Processor", "goThere", "()V"⟩, 12), (⟨"CharMachine$Processor", "suppressZeros", "()I"⟩, 12), (⟨"CharMachine$Processor", "branch", "(I)I"⟩, 12)]
theorem lw_r1 : ∀ q ∈ lw_privs_1, lw_okq q := List.forall_mem_cons.mpr ⟨lw_p0, List.forall_mem_cons.mpr ⟨lw_p1, List.forall_mem_cons.mpr ⟨lw_p2, List.forall_mem_cons.mpr ⟨lw_p3, List.forall_mem_cons.mpr ⟨lw_p4, List.forall_mem_cons.mpr ⟨lw_p5, List.forall_mem_cons.mpr ⟨lw_p6, List.forall_mem_cons.mpr ⟨lw_p7, List.forall_mem_cons.mpr ⟨lw_p8, List.forall_mem_cons.mpr ⟨lw_p9, List.forall_mem_cons.mpr ⟨lw_p10, List.forall_mem_cons.mpr ⟨lw_p11, List.forall_mem_cons.mpr ⟨lw_p12, List.forall_mem_cons.mpr ⟨lw_p13, List.forall_mem_cons.mpr ⟨lw_p14, List.forall_mem_cons.mpr ⟨lw_p15, fun _ h => absurd h List.not_mem_nil⟩⟩⟩⟩⟩⟩⟩⟩⟩⟩⟩⟩⟩⟩⟩⟩
theorem lw_p16 : lw_okq (⟨"CharMachine$Processor", "modifier", "()I"⟩, 12) := ⟨⟨by decide +kernel, by decide +kernel⟩, List.mem_of_getElem? (i := 56) (by decide +kernel), List.mem_of_getElem? (i := 491) (by decide +kernel), List.mem_of_getElem? (i := 492) (by decide +kernel)⟩
theorem lw_p17 : lw_okq (⟨"CharMachine$Processor", "isIndicated", "(I)Z"⟩, 12) := ⟨⟨by decide +kernel, by decide +kernel⟩, List.mem_of_getElem? (i := 56) (by decide +kernel), List.mem_of_getElem? (i := 495) (by decide +kernel), List.mem_of_getElem? (i := 496) (by decide +kernel)⟩
theorem lw_p18 : lw_okq (⟨"CharMachine$Processor", "takeOverflow", "()Z"⟩, 12) := ⟨⟨by decide +kernel, by decide +kernel⟩, List.mem_of_getElem? (i := 56) (by decide +kernel), List.mem_of_getElem? (i := 499) (by decide +kernel), List.mem_of_getElem? (i := 500) (by decide +kernel)⟩
theorem lw_p19 : lw_okq (⟨"CharMachine$Processor", "branchByPosition", "()I"⟩, 12) := ⟨⟨by decide +kernel, by decide +kernel⟩, List.mem_of_getElem? (i := 56) (by decide +kernel), List.mem_of_getElem? (i := 503) (by decide +kernel), List.mem_of_getElem? (i := 504) (by decide +kernel)⟩
theorem lw_p20 : lw_okq (⟨"CharMachine$Processor", "isAsAsked", "(II)Z"⟩, 12) := ⟨⟨by decide +kernel, by decide +kernel⟩, List.mem_of_getElem? (i := 56) (by decide +kernel), List.mem_of_getElem? (i := 507) (by decide +kernel), List.mem_of_getElem? (i := 508) (by decide +kernel)⟩
theorem lw_p21 : lw_okq (⟨"CharMachine$Processor", "readCard", "(Z)I"⟩, 12) := ⟨⟨by decide +kernel, by decide +kernel⟩, List.mem_of_getElem? (i := 56) (by decide +kernel), List.mem_of_getElem? (i := 512) (by decide +kernel), List.mem_of_getElem? (i := 513) (by decide +kernel)⟩
theorem lw_p22 : lw_okq (⟨"CharMachine$Processor", "endTransfer", "(IZ)V"⟩, 12) := ⟨⟨by decide +kernel, by decide +kernel⟩, List.mem_of_getElem? (i := 56) (by decide +kernel), List.mem_of_getElem? (i := 521) (by decide +kernel), List.mem_of_getElem? (i := 522) (by decide +kernel)⟩
theorem lw_p23 : lw_okq (⟨"CharMachine$Processor", "fillRow", "(LCharMachine$Pile;IIZ)I"⟩, 12) := ⟨⟨by decide +kernel, by decide +kernel⟩, List.mem_of_getElem? (i := 56) (by decide +kernel), List.mem_of_getElem? (i := 525) (by decide +kernel), List.mem_of_getElem? (i := 526) (by decide +kernel)⟩
theorem lw_p24 : lw_okq (⟨"CharMachine$Processor", "storeAddress", "(I)I"⟩, 12) := ⟨⟨by decide +kernel, by decide +kernel⟩, List.mem_of_getElem? (i := 56) (by decide +kernel), List.mem_of_getElem? (i := 537) (by decide +kernel), List.mem_of_getElem? (i := 538) (by decide +kernel)⟩
theorem lw_p25 : lw_okq (⟨"CharMachine$Processor", "halt", "(Z)I"⟩, 12) := ⟨⟨by decide +kernel, by decide +kernel⟩, List.mem_of_getElem? (i := 56) (by decide +kernel), List.mem_of_getElem? (i := 549) (by decide +kernel), List.mem_of_getElem? (i := 550) (by decide +kernel)⟩
theorem lw_p26 : lw_okq (⟨"CharMachineModel", "is", "(I)Z"⟩, 28) := ⟨⟨by decide +kernel, by decide +kernel⟩, List.mem_of_getElem? (i := 631) (by decide +kernel), List.mem_of_getElem? (i := 732) (by decide +kernel), List.mem_of_getElem? (i := 733) (by decide +kernel)⟩
theorem lw_p27 : lw_okq (⟨"CharMachineModel", "fetch", "()I"⟩, 28) := ⟨⟨by decide +kernel, by decide +kernel⟩, List.mem_of_getElem? (i := 631) (by decide +kernel), List.mem_of_getElem? (i := 762) (by decide +kernel), List.mem_of_getElem? (i := 763) (by decide +kernel)⟩
theorem lw_p28 : lw_okq (⟨"CharMachineModel", "address", "(I)I"⟩, 28) := ⟨⟨by decide +kernel, by decide +kernel⟩, List.mem_of_getElem? (i := 631) (by decide +kernel), List.mem_of_getElem? (i := 772) (by decide +kernel), List.mem_of_getElem? (i := 773) (by decide +kernel)⟩
theorem lw_p29 : lw_okq (⟨"CharMachineModel", "execute", "()I"⟩, 28) := ⟨⟨by decide +kernel, by decide +kernel⟩, List.mem_of_getElem? (i := 631) (by decide +kernel), List.mem_of_getElem? (i := 779) (by decide +kernel), List.mem_of_getElem? (i := 780) (by decide +kernel)⟩
theorem lw_p30 : lw_okq (⟨"CharMachineModel", "add", "()I"⟩, 28) := ⟨⟨by decide +kernel, by decide +kernel⟩, List.mem_of_getElem? (i := 631) (by decide +kernel), List.mem_of_getElem? (i := 783) (by decide +kernel), List.mem_of_getElem? (i := 784) (by decide +kernel)⟩
theorem lw_p31 : lw_okq (⟨"CharMachineModel", "field", "(II)I"⟩, 28) := ⟨⟨by decide +kernel, by decide +kernel⟩, List.mem_of_getElem? (i := 631) (by decide +kernel), List.mem_of_getElem? (i := 787) (by decide +kernel), List.mem_of_getElem? (i := 788) (by decide +kernel)⟩
def lw_privs_2 : List (MethodName × Nat) := [(⟨"CharMachine$Processor", "modifier", "()I"⟩, 12), (⟨"CharMachine$Processor", "isIndicated", "(I)Z"⟩, 12), (⟨"CharMachine$Processor", "takeOverflow", "()Z"⟩, 12), (⟨"CharMachine$Processor", "branchByPosition", "()I"⟩, 12), (⟨"CharMachine$Processor", "isAsAsked", "(II)Z"⟩, 12), (⟨"CharMachine$Processor", "readCard", "(Z)I"⟩, 12), (⟨"CharMachine$Processor", "endTransfer", "(IZ)V"⟩, 12), (⟨"CharMachine$Processor", "fillRow", "(LCharMachine$Pile;IIZ)I"⟩, 12), (⟨"CharMachine$Processor", "storeAddress", "(I)I"⟩, 12), (⟨"CharMachine$Processor", "halt", "(Z)I"⟩, 12), (⟨"CharMachineModel", "is", "(I)Z"⟩, 28), (⟨"CharMachineModel", "fetch", "()I"⟩, 28), (⟨"CharMachineModel", "address", "(I)I"⟩, 28), (⟨"CharMachineModel", "execute", "()I"⟩, 28), (⟨"CharMachineModel", "add", "()I"⟩, 28), (⟨"CharMachineModel", "field", "(II)I"⟩, 28)]
theorem lw_r2 : ∀ q ∈ lw_privs_2, lw_okq q := List.forall_mem_cons.mpr ⟨lw_p16, List.forall_mem_cons.mpr ⟨lw_p17, List.forall_mem_cons.mpr ⟨lw_p18, List.forall_mem_cons.mpr ⟨lw_p19, List.forall_mem_cons.mpr ⟨lw_p20, List.forall_mem_cons.mpr ⟨lw_p21, List.forall_mem_cons.mpr ⟨lw_p22, List.forall_mem_cons.mpr ⟨lw_p23, List.forall_mem_cons.mpr ⟨lw_p24, List.forall_mem_cons.mpr ⟨lw_p25, List.forall_mem_cons.mpr ⟨lw_p26, List.forall_mem_cons.mpr ⟨lw_p27, List.forall_mem_cons.mpr ⟨lw_p28, List.forall_mem_cons.mpr ⟨lw_p29, List.forall_mem_cons.mpr ⟨lw_p30, List.forall_mem_cons.mpr ⟨lw_p31, fun _ h => absurd h List.not_mem_nil⟩⟩⟩⟩⟩⟩⟩⟩⟩⟩⟩⟩⟩⟩⟩⟩
theorem lw_p32 : lw_okq (⟨"CharMachineModel", "readDigits", "([IIII)V"⟩, 28) := ⟨⟨by decide +kernel, by decide +kernel⟩, List.mem_of_getElem? (i := 631) (by decide +kernel), List.mem_of_getElem? (i := 797) (by decide +kernel), List.mem_of_getElem? (i := 798) (by decide +kernel)⟩
theorem lw_p33 : lw_okq (⟨"CharMachineModel", "writeDigits", "(II)V"⟩, 28) := ⟨⟨by decide +kernel, by decide +kernel⟩, List.mem_of_getElem? (i := 631) (by decide +kernel), List.mem_of_getElem? (i := 801) (by decide +kernel), List.mem_of_getElem? (i := 802) (by decide +kernel)⟩
theorem lw_p34 : lw_okq (⟨"CharMachineModel", "isMore", "(I)Z"⟩, 28) := ⟨⟨by decide +kernel, by decide +kernel⟩, List.mem_of_getElem? (i := 631) (by decide +kernel), List.mem_of_getElem? (i := 808) (by decide +kernel), List.mem_of_getElem? (i := 809) (by decide +kernel)⟩
theorem lw_p35 : lw_okq (⟨"CharMachineModel", "reset", "()I"⟩, 28) := ⟨⟨by decide +kernel, by decide +kernel⟩, List.mem_of_getElem? (i := 631) (by decide +kernel), List.mem_of_getElem? (i := 812) (by decide +kernel), List.mem_of_getElem? (i := 813) (by decide +kernel)⟩
theorem lw_p36 : lw_okq (⟨"CharMachineModel", "move", "()I"⟩, 28) := ⟨⟨by decide +kernel, by decide +kernel⟩, List.mem_of_getElem? (i := 631) (by decide +kernel), List.mem_of_getElem? (i := 816) (by decide +kernel), List.mem_of_getElem? (i := 817) (by decide +kernel)⟩
theorem lw_p37 : lw_okq (⟨"CharMachineModel", "both", "()I"⟩, 28) := ⟨⟨by decide +kernel, by decide +kernel⟩, List.mem_of_getElem? (i := 631) (by decide +kernel), List.mem_of_getElem? (i := 820) (by decide +kernel), List.mem_of_getElem? (i := 821) (by decide +kernel)⟩
theorem lw_p38 : lw_okq (⟨"CharMachineModel", "load", "()I"⟩, 28) := ⟨⟨by decide +kernel, by decide +kernel⟩, List.mem_of_getElem? (i := 631) (by decide +kernel), List.mem_of_getElem? (i := 824) (by decide +kernel), List.mem_of_getElem? (i := 825) (by decide +kernel)⟩
theorem lw_p39 : lw_okq (⟨"CharMachineModel", "part", "()I"⟩, 28) := ⟨⟨by decide +kernel, by decide +kernel⟩, List.mem_of_getElem? (i := 631) (by decide +kernel), List.mem_of_getElem? (i := 828) (by decide +kernel), List.mem_of_getElem? (i := 829) (by decide +kernel)⟩
theorem lw_p40 : lw_okq (⟨"CharMachineModel", "compare", "()I"⟩, 28) := ⟨⟨by decide +kernel, by decide +kernel⟩, List.mem_of_getElem? (i := 631) (by decide +kernel), List.mem_of_getElem? (i := 832) (by decide +kernel), List.mem_of_getElem? (i := 833) (by decide +kernel)⟩
theorem lw_p41 : lw_okq (⟨"CharMachineModel", "marks", "()I"⟩, 28) := ⟨⟨by decide +kernel, by decide +kernel⟩, List.mem_of_getElem? (i := 631) (by decide +kernel), List.mem_of_getElem? (i := 839) (by decide +kernel), List.mem_of_getElem? (i := 840) (by decide +kernel)⟩
theorem lw_p42 : lw_okq (⟨"CharMachineModel", "clear", "()I"⟩, 28) := ⟨⟨by decide +kernel, by decide +kernel⟩, List.mem_of_getElem? (i := 631) (by decide +kernel), List.mem_of_getElem? (i := 843) (by decide +kernel), List.mem_of_getElem? (i := 844) (by decide +kernel)⟩
theorem lw_p43 : lw_okq (⟨"CharMachineModel", "go", "()V"⟩, 28) := ⟨⟨by decide +kernel, by decide +kernel⟩, List.mem_of_getElem? (i := 631) (by decide +kernel), List.mem_of_getElem? (i := 847) (by decide +kernel), List.mem_of_getElem? (i := 848) (by decide +kernel)⟩
theorem lw_p44 : lw_okq (⟨"CharMachineModel", "edit", "()I"⟩, 28) := ⟨⟨by decide +kernel, by decide +kernel⟩, List.mem_of_getElem? (i := 631) (by decide +kernel), List.mem_of_getElem? (i := 851) (by decide +kernel), List.mem_of_getElem? (i := 852) (by decide +kernel)⟩
theorem lw_p45 : lw_okq (⟨"CharMachineModel", "branch", "()I"⟩, 28) := ⟨⟨by decide +kernel, by decide +kernel⟩, List.mem_of_getElem? (i := 631) (by decide +kernel), List.mem_of_getElem? (i := 855) (by decide +kernel), List.mem_of_getElem? (i := 856) (by decide +kernel)⟩
theorem lw_p46 : lw_okq (⟨"CharMachineModel", "modifier", "()I"⟩, 28) := ⟨⟨by decide +kernel, by decide +kernel⟩, List.mem_of_getElem? (i := 631) (by decide +kernel), List.mem_of_getElem? (i := 859) (by decide +kernel), List.mem_of_getElem? (i := 860) (by decide +kernel)⟩
theorem lw_p47 : lw_okq (⟨"CharMachineModel", "branchMark", "()I"⟩, 28) := ⟨⟨by decide +kernel, by decide +kernel⟩, List.mem_of_getElem? (i := 631) (by decide +kernel), List.mem_of_getElem? (i := 863) (by decide +kernel), List.mem_of_getElem? (i := 864) (by decide +kernel)⟩
def lw_privs_3 : List (MethodName × Nat) := [(⟨"CharMachineModel", "readDigits", "([IIII)V"⟩, 28), (⟨"CharMachineModel", "writeDigits", "(II)V"⟩, 28), (⟨"CharMachineModel", "isMore", "(I)Z"⟩, 28), (⟨"CharMachineModel", "reset", "()I"⟩, 28), (⟨"CharMachineModel", "move", "()I"⟩, 28), (⟨"CharMachineModel", "both", "()I"⟩, 28), (⟨"CharMachineModel", "load", "()I"⟩, 28), (⟨"CharMachineModel", "part", "()I"⟩, 28), (⟨"CharMachineModel", "compare", "()I"⟩, 28), (⟨"CharMachineModel", "marks", "()I"⟩, 28), (⟨"CharMachineModel", "clear", "()I"⟩, 28), (⟨"CharMachineModel", "go", "()V"⟩, 28), (⟨"CharMachineModel", "edit", "()I"⟩, 28), (⟨"CharMachineModel", "branch", "()I"⟩, 28), (⟨"CharMachineModel", "modifier", "()I"⟩, 28), (⟨"CharMachineModel", "branchMark", "()I"⟩, 28)]
theorem lw_r3 : ∀ q ∈ lw_privs_3, lw_okq q := List.forall_mem_cons.mpr ⟨lw_p32, List.forall_mem_cons.mpr ⟨lw_p33, List.forall_mem_cons.mpr ⟨lw_p34, List.forall_mem_cons.mpr ⟨lw_p35, List.forall_mem_cons.mpr ⟨lw_p36, List.forall_mem_cons.mpr ⟨lw_p37, List.forall_mem_cons.mpr ⟨lw_p38, List.forall_mem_cons.mpr ⟨lw_p39, List.forall_mem_cons.mpr ⟨lw_p40, List.forall_mem_cons.mpr ⟨lw_p41, List.forall_mem_cons.mpr ⟨lw_p42, List.forall_mem_cons.mpr ⟨lw_p43, List.forall_mem_cons.mpr ⟨lw_p44, List.forall_mem_cons.mpr ⟨lw_p45, List.forall_mem_cons.mpr ⟨lw_p46, List.forall_mem_cons.mpr ⟨lw_p47, fun _ h => absurd h List.not_mem_nil⟩⟩⟩⟩⟩⟩⟩⟩⟩⟩⟩⟩⟩⟩⟩⟩
theorem lw_p48 : lw_okq (⟨"CharMachineModel", "device", "()I"⟩, 28) := ⟨⟨by decide +kernel, by decide +kernel⟩, List.mem_of_getElem? (i := 631) (by decide +kernel), List.mem_of_getElem? (i := 867) (by decide +kernel), List.mem_of_getElem? (i := 868) (by decide +kernel)⟩
theorem lw_p49 : lw_okq (⟨"CharMachineModel", "readCard", "()I"⟩, 28) := ⟨⟨by decide +kernel, by decide +kernel⟩, List.mem_of_getElem? (i := 631) (by decide +kernel), List.mem_of_getElem? (i := 871) (by decide +kernel), List.mem_of_getElem? (i := 872) (by decide +kernel)⟩
theorem lw_p50 : lw_okq (⟨"CharMachineModel", "print", "()I"⟩, 28) := ⟨⟨by decide +kernel, by decide +kernel⟩, List.mem_of_getElem? (i := 631) (by decide +kernel), List.mem_of_getElem? (i := 875) (by decide +kernel), List.mem_of_getElem? (i := 876) (by decide +kernel)⟩
theorem lw_p51 : lw_okq (⟨"CharMachineModel", "punchCard", "()I"⟩, 28) := ⟨⟨by decide +kernel, by decide +kernel⟩, List.mem_of_getElem? (i := 631) (by decide +kernel), List.mem_of_getElem? (i := 879) (by decide +kernel), List.mem_of_getElem? (i := 880) (by decide +kernel)⟩
theorem lw_p52 : lw_okq (⟨"CharMachineModel", "keepRegister", "()I"⟩, 28) := ⟨⟨by decide +kernel, by decide +kernel⟩, List.mem_of_getElem? (i := 631) (by decide +kernel), List.mem_of_getElem? (i := 883) (by decide +kernel), List.mem_of_getElem? (i := 884) (by decide +kernel)⟩
theorem lw_p53 : lw_okq (⟨"CharMachineModel", "stopHere", "()I"⟩, 28) := ⟨⟨by decide +kernel, by decide +kernel⟩, List.mem_of_getElem? (i := 631) (by decide +kernel), List.mem_of_getElem? (i := 887) (by decide +kernel), List.mem_of_getElem? (i := 888) (by decide +kernel)⟩
def lw_privs_4 : List (MethodName × Nat) := [(⟨"CharMachineModel", "device", "()I"⟩, 28), (⟨"CharMachineModel", "readCard", "()I"⟩, 28), (⟨"CharMachineModel", "print", "()I"⟩, 28), (⟨"CharMachineModel", "punchCard", "()I"⟩, 28), (⟨"CharMachineModel", "keepRegister", "()I"⟩, 28), (⟨"CharMachineModel", "stopHere", "()I"⟩, 28)]
theorem lw_r4 : ∀ q ∈ lw_privs_4, lw_okq q := List.forall_mem_cons.mpr ⟨lw_p48, List.forall_mem_cons.mpr ⟨lw_p49, List.forall_mem_cons.mpr ⟨lw_p50, List.forall_mem_cons.mpr ⟨lw_p51, List.forall_mem_cons.mpr ⟨lw_p52, List.forall_mem_cons.mpr ⟨lw_p53, fun _ h => absurd h List.not_mem_nil⟩⟩⟩⟩⟩⟩
def lw_privs : List (MethodName × Nat) := lw_privs_1 ++ (lw_privs_2 ++ (lw_privs_3 ++ (lw_privs_4)))
def lw_tbl : List Cond := k2_sels lw_privs ++ tables_1
theorem lw_privs_ok : ∀ q ∈ lw_privs, lw_okq q := by
  show ∀ q ∈ lw_privs_1 ++ (lw_privs_2 ++ (lw_privs_3 ++ (lw_privs_4))), lw_okq q
  exact List.forall_mem_append.mpr ⟨lw_r1, List.forall_mem_append.mpr ⟨lw_r2, List.forall_mem_append.mpr ⟨lw_r3, lw_r4⟩⟩⟩
end
section
/-! the words of the tables that stay true; each by its place -/
def BIG : List Cond := lw_tbl.filter goodWord
theorem tp_0 : (Jvm.Cond.selects "java/lang/Throwable" ({ cls := "java/lang/Throwable", name := "fillInStackTrace", desc := "(I)Ljava/lang/Throwable;" } : Jvm.MethodName) ({ cls := "java/lang/Throwable", name := "fillInStackTrace", desc := "(I)Ljava/lang/Throwable;" } : Jvm.MethodName)) ∈ BIG := List.mem_filter.mpr ⟨List.mem_of_getElem? (i := 0) (by decide +kernel), by decide +kernel⟩
theorem tp_1 : (Jvm.Cond.selects "CharMachine$Processor" ({ cls := "CharMachine$Processor", name := "instructionLength", desc := "()I" } : Jvm.MethodName) ({ cls := "CharMachine$Processor", name := "instructionLength", desc := "()I" } : Jvm.MethodName)) ∈ BIG := List.mem_filter.mpr ⟨List.mem_of_getElem? (i := 1) (by decide +kernel), by decide +kernel⟩
theorem tp_2 : (Jvm.Cond.selects "CharMachine$Processor" ({ cls := "CharMachine$Processor", name := "takeAddresses", desc := "(II)V" } : Jvm.MethodName) ({ cls := "CharMachine$Processor", name := "takeAddresses", desc := "(II)V" } : Jvm.MethodName)) ∈ BIG := List.mem_filter.mpr ⟨List.mem_of_getElem? (i := 2) (by decide +kernel), by decide +kernel⟩
theorem tp_3 : (Jvm.Cond.selects "CharMachine$Processor" ({ cls := "CharMachine$Processor", name := "perform", desc := "(III)I" } : Jvm.MethodName) ({ cls := "CharMachine$Processor", name := "perform", desc := "(III)I" } : Jvm.MethodName)) ∈ BIG := List.mem_filter.mpr ⟨List.mem_of_getElem? (i := 3) (by decide +kernel), by decide +kernel⟩
theorem tp_4 : (Jvm.Cond.selects "CharMachine$Processor" ({ cls := "CharMachine$Processor", name := "calculate", desc := "(ZZ)I" } : Jvm.MethodName) ({ cls := "CharMachine$Processor", name := "calculate", desc := "(ZZ)I" } : Jvm.MethodName)) ∈ BIG := List.mem_filter.mpr ⟨List.mem_of_getElem? (i := 4) (by decide +kernel), by decide +kernel⟩
theorem tp_5 : (Jvm.Cond.selects "CharMachine$Processor" ({ cls := "CharMachine$Processor", name := "addSigned", desc := "(IZ)V" } : Jvm.MethodName) ({ cls := "CharMachine$Processor", name := "addSigned", desc := "(IZ)V" } : Jvm.MethodName)) ∈ BIG := List.mem_filter.mpr ⟨List.mem_of_getElem? (i := 5) (by decide +kernel), by decide +kernel⟩
theorem tp_6 : (Jvm.Cond.selects "CharMachine$Processor" ({ cls := "CharMachine$Processor", name := "move", desc := "()I" } : Jvm.MethodName) ({ cls := "CharMachine$Processor", name := "move", desc := "()I" } : Jvm.MethodName)) ∈ BIG := List.mem_filter.mpr ⟨List.mem_of_getElem? (i := 6) (by decide +kernel), by decide +kernel⟩
theorem tp_7 : (Jvm.Cond.selects "CharMachine$Processor" ({ cls := "CharMachine$Processor", name := "load", desc := "()I" } : Jvm.MethodName) ({ cls := "CharMachine$Processor", name := "load", desc := "()I" } : Jvm.MethodName)) ∈ BIG := List.mem_filter.mpr ⟨List.mem_of_getElem? (i := 7) (by decide +kernel), by decide +kernel⟩
theorem tp_8 : (Jvm.Cond.selects "CharMachine$Processor" ({ cls := "CharMachine$Processor", name := "moveBits", desc := "(I)I" } : Jvm.MethodName) ({ cls := "CharMachine$Processor", name := "moveBits", desc := "(I)I" } : Jvm.MethodName)) ∈ BIG := List.mem_filter.mpr ⟨List.mem_of_getElem? (i := 8) (by decide +kernel), by decide +kernel⟩
theorem tp_9 : (Jvm.Cond.selects "CharMachine$Processor" ({ cls := "CharMachine$Processor", name := "compare", desc := "()I" } : Jvm.MethodName) ({ cls := "CharMachine$Processor", name := "compare", desc := "()I" } : Jvm.MethodName)) ∈ BIG := List.mem_filter.mpr ⟨List.mem_of_getElem? (i := 9) (by decide +kernel), by decide +kernel⟩
theorem tp_10 : (Jvm.Cond.selects "CharMachine$Processor" ({ cls := "CharMachine$Processor", name := "orderOf", desc := "(I)I" } : Jvm.MethodName) ({ cls := "CharMachine$Processor", name := "orderOf", desc := "(I)I" } : Jvm.MethodName)) ∈ BIG := List.mem_filter.mpr ⟨List.mem_of_getElem? (i := 10) (by decide +kernel), by decide +kernel⟩
theorem tp_11 : (Jvm.Cond.selects "CharMachine$Processor" ({ cls := "CharMachine$Processor", name := "changeMarks", desc := "(Z)I" } : Jvm.MethodName) ({ cls := "CharMachine$Processor", name := "changeMarks", desc := "(Z)I" } : Jvm.MethodName)) ∈ BIG := List.mem_filter.mpr ⟨List.mem_of_getElem? (i := 11) (by decide +kernel), by decide +kernel⟩
theorem tp_12 : (Jvm.Cond.selects "CharMachine$Processor" ({ cls := "CharMachine$Processor", name := "clear", desc := "(Z)I" } : Jvm.MethodName) ({ cls := "CharMachine$Processor", name := "clear", desc := "(Z)I" } : Jvm.MethodName)) ∈ BIG := List.mem_filter.mpr ⟨List.mem_of_getElem? (i := 12) (by decide +kernel), by decide +kernel⟩
theorem tp_13 : (Jvm.Cond.selects "CharMachine$Processor" ({ cls := "CharMachine$Processor", name := "goThere", desc := "()V" } : Jvm.MethodName) ({ cls := "CharMachine$Processor", name := "goThere", desc := "()V" } : Jvm.MethodName)) ∈ BIG := List.mem_filter.mpr ⟨List.mem_of_getElem? (i := 13) (by decide +kernel), by decide +kernel⟩
theorem tp_14 : (Jvm.Cond.selects "CharMachine$Processor" ({ cls := "CharMachine$Processor", name := "suppressZeros", desc := "()I" } : Jvm.MethodName) ({ cls := "CharMachine$Processor", name := "suppressZeros", desc := "()I" } : Jvm.MethodName)) ∈ BIG := List.mem_filter.mpr ⟨List.mem_of_getElem? (i := 14) (by decide +kernel), by decide +kernel⟩
theorem tp_15 : (Jvm.Cond.selects "CharMachine$Processor" ({ cls := "CharMachine$Processor", name := "branch", desc := "(I)I" } : Jvm.MethodName) ({ cls := "CharMachine$Processor", name := "branch", desc := "(I)I" } : Jvm.MethodName)) ∈ BIG := List.mem_filter.mpr ⟨List.mem_of_getElem? (i := 15) (by decide +kernel), by decide +kernel⟩
theorem tp_16 : (Jvm.Cond.selects "CharMachine$Processor" ({ cls := "CharMachine$Processor", name := "modifier", desc := "()I" } : Jvm.MethodName) ({ cls := "CharMachine$Processor", name := "modifier", desc := "()I" } : Jvm.MethodName)) ∈ BIG := List.mem_filter.mpr ⟨List.mem_of_getElem? (i := 16) (by decide +kernel), by decide +kernel⟩
theorem tp_17 : (Jvm.Cond.selects "CharMachine$Processor" ({ cls := "CharMachine$Processor", name := "isIndicated", desc := "(I)Z" } : Jvm.MethodName) ({ cls := "CharMachine$Processor", name := "isIndicated", desc := "(I)Z" } : Jvm.MethodName)) ∈ BIG := List.mem_filter.mpr ⟨List.mem_of_getElem? (i := 17) (by decide +kernel), by decide +kernel⟩
theorem tp_18 : (Jvm.Cond.selects "CharMachine$Processor" ({ cls := "CharMachine$Processor", name := "takeOverflow", desc := "()Z" } : Jvm.MethodName) ({ cls := "CharMachine$Processor", name := "takeOverflow", desc := "()Z" } : Jvm.MethodName)) ∈ BIG := List.mem_filter.mpr ⟨List.mem_of_getElem? (i := 18) (by decide +kernel), by decide +kernel⟩
theorem tp_19 : (Jvm.Cond.selects "CharMachine$Processor" ({ cls := "CharMachine$Processor", name := "branchByPosition", desc := "()I" } : Jvm.MethodName) ({ cls := "CharMachine$Processor", name := "branchByPosition", desc := "()I" } : Jvm.MethodName)) ∈ BIG := List.mem_filter.mpr ⟨List.mem_of_getElem? (i := 19) (by decide +kernel), by decide +kernel⟩
theorem tp_20 : (Jvm.Cond.selects "CharMachine$Processor" ({ cls := "CharMachine$Processor", name := "isAsAsked", desc := "(II)Z" } : Jvm.MethodName) ({ cls := "CharMachine$Processor", name := "isAsAsked", desc := "(II)Z" } : Jvm.MethodName)) ∈ BIG := List.mem_filter.mpr ⟨List.mem_of_getElem? (i := 20) (by decide +kernel), by decide +kernel⟩
theorem tp_21 : (Jvm.Cond.selects "CharMachine$Processor" ({ cls := "CharMachine$Processor", name := "readCard", desc := "(Z)I" } : Jvm.MethodName) ({ cls := "CharMachine$Processor", name := "readCard", desc := "(Z)I" } : Jvm.MethodName)) ∈ BIG := List.mem_filter.mpr ⟨List.mem_of_getElem? (i := 21) (by decide +kernel), by decide +kernel⟩
theorem tp_22 : (Jvm.Cond.selects "CharMachine$Processor" ({ cls := "CharMachine$Processor", name := "endTransfer", desc := "(IZ)V" } : Jvm.MethodName) ({ cls := "CharMachine$Processor", name := "endTransfer", desc := "(IZ)V" } : Jvm.MethodName)) ∈ BIG := List.mem_filter.mpr ⟨List.mem_of_getElem? (i := 22) (by decide +kernel), by decide +kernel⟩
theorem tp_23 : (Jvm.Cond.selects "CharMachine$Processor" ({ cls := "CharMachine$Processor", name := "fillRow", desc := "(LCharMachine$Pile;IIZ)I" } : Jvm.MethodName) ({ cls := "CharMachine$Processor", name := "fillRow", desc := "(LCharMachine$Pile;IIZ)I" } : Jvm.MethodName)) ∈ BIG := List.mem_filter.mpr ⟨List.mem_of_getElem? (i := 23) (by decide +kernel), by decide +kernel⟩
theorem tp_24 : (Jvm.Cond.selects "CharMachine$Processor" ({ cls := "CharMachine$Processor", name := "storeAddress", desc := "(I)I" } : Jvm.MethodName) ({ cls := "CharMachine$Processor", name := "storeAddress", desc := "(I)I" } : Jvm.MethodName)) ∈ BIG := List.mem_filter.mpr ⟨List.mem_of_getElem? (i := 24) (by decide +kernel), by decide +kernel⟩
theorem tp_25 : (Jvm.Cond.selects "CharMachine$Processor" ({ cls := "CharMachine$Processor", name := "halt", desc := "(Z)I" } : Jvm.MethodName) ({ cls := "CharMachine$Processor", name := "halt", desc := "(Z)I" } : Jvm.MethodName)) ∈ BIG := List.mem_filter.mpr ⟨List.mem_of_getElem? (i := 25) (by decide +kernel), by decide +kernel⟩
theorem tp_26 : (Jvm.Cond.selects "CharMachineModel" ({ cls := "CharMachineModel", name := "is", desc := "(I)Z" } : Jvm.MethodName) ({ cls := "CharMachineModel", name := "is", desc := "(I)Z" } : Jvm.MethodName)) ∈ BIG := List.mem_filter.mpr ⟨List.mem_of_getElem? (i := 26) (by decide +kernel), by decide +kernel⟩
theorem tp_27 : (Jvm.Cond.selects "CharMachineModel" ({ cls := "CharMachineModel", name := "fetch", desc := "()I" } : Jvm.MethodName) ({ cls := "CharMachineModel", name := "fetch", desc := "()I" } : Jvm.MethodName)) ∈ BIG := List.mem_filter.mpr ⟨List.mem_of_getElem? (i := 27) (by decide +kernel), by decide +kernel⟩
theorem tp_28 : (Jvm.Cond.selects "CharMachineModel" ({ cls := "CharMachineModel", name := "address", desc := "(I)I" } : Jvm.MethodName) ({ cls := "CharMachineModel", name := "address", desc := "(I)I" } : Jvm.MethodName)) ∈ BIG := List.mem_filter.mpr ⟨List.mem_of_getElem? (i := 28) (by decide +kernel), by decide +kernel⟩
theorem tp_29 : (Jvm.Cond.selects "CharMachineModel" ({ cls := "CharMachineModel", name := "execute", desc := "()I" } : Jvm.MethodName) ({ cls := "CharMachineModel", name := "execute", desc := "()I" } : Jvm.MethodName)) ∈ BIG := List.mem_filter.mpr ⟨List.mem_of_getElem? (i := 29) (by decide +kernel), by decide +kernel⟩
theorem tp_30 : (Jvm.Cond.selects "CharMachineModel" ({ cls := "CharMachineModel", name := "add", desc := "()I" } : Jvm.MethodName) ({ cls := "CharMachineModel", name := "add", desc := "()I" } : Jvm.MethodName)) ∈ BIG := List.mem_filter.mpr ⟨List.mem_of_getElem? (i := 30) (by decide +kernel), by decide +kernel⟩
theorem tp_31 : (Jvm.Cond.selects "CharMachineModel" ({ cls := "CharMachineModel", name := "field", desc := "(II)I" } : Jvm.MethodName) ({ cls := "CharMachineModel", name := "field", desc := "(II)I" } : Jvm.MethodName)) ∈ BIG := List.mem_filter.mpr ⟨List.mem_of_getElem? (i := 31) (by decide +kernel), by decide +kernel⟩
theorem tp_32 : (Jvm.Cond.selects "CharMachineModel" ({ cls := "CharMachineModel", name := "readDigits", desc := "([IIII)V" } : Jvm.MethodName) ({ cls := "CharMachineModel", name := "readDigits", desc := "([IIII)V" } : Jvm.MethodName)) ∈ BIG := List.mem_filter.mpr ⟨List.mem_of_getElem? (i := 32) (by decide +kernel), by decide +kernel⟩
theorem tp_33 : (Jvm.Cond.selects "CharMachineModel" ({ cls := "CharMachineModel", name := "writeDigits", desc := "(II)V" } : Jvm.MethodName) ({ cls := "CharMachineModel", name := "writeDigits", desc := "(II)V" } : Jvm.MethodName)) ∈ BIG := List.mem_filter.mpr ⟨List.mem_of_getElem? (i := 33) (by decide +kernel), by decide +kernel⟩
theorem tp_34 : (Jvm.Cond.selects "CharMachineModel" ({ cls := "CharMachineModel", name := "isMore", desc := "(I)Z" } : Jvm.MethodName) ({ cls := "CharMachineModel", name := "isMore", desc := "(I)Z" } : Jvm.MethodName)) ∈ BIG := List.mem_filter.mpr ⟨List.mem_of_getElem? (i := 34) (by decide +kernel), by decide +kernel⟩
theorem tp_35 : (Jvm.Cond.selects "CharMachineModel" ({ cls := "CharMachineModel", name := "reset", desc := "()I" } : Jvm.MethodName) ({ cls := "CharMachineModel", name := "reset", desc := "()I" } : Jvm.MethodName)) ∈ BIG := List.mem_filter.mpr ⟨List.mem_of_getElem? (i := 35) (by decide +kernel), by decide +kernel⟩
theorem tp_36 : (Jvm.Cond.selects "CharMachineModel" ({ cls := "CharMachineModel", name := "move", desc := "()I" } : Jvm.MethodName) ({ cls := "CharMachineModel", name := "move", desc := "()I" } : Jvm.MethodName)) ∈ BIG := List.mem_filter.mpr ⟨List.mem_of_getElem? (i := 36) (by decide +kernel), by decide +kernel⟩
theorem tp_37 : (Jvm.Cond.selects "CharMachineModel" ({ cls := "CharMachineModel", name := "both", desc := "()I" } : Jvm.MethodName) ({ cls := "CharMachineModel", name := "both", desc := "()I" } : Jvm.MethodName)) ∈ BIG := List.mem_filter.mpr ⟨List.mem_of_getElem? (i := 37) (by decide +kernel), by decide +kernel⟩
theorem tp_38 : (Jvm.Cond.selects "CharMachineModel" ({ cls := "CharMachineModel", name := "load", desc := "()I" } : Jvm.MethodName) ({ cls := "CharMachineModel", name := "load", desc := "()I" } : Jvm.MethodName)) ∈ BIG := List.mem_filter.mpr ⟨List.mem_of_getElem? (i := 38) (by decide +kernel), by decide +kernel⟩
theorem tp_39 : (Jvm.Cond.selects "CharMachineModel" ({ cls := "CharMachineModel", name := "part", desc := "()I" } : Jvm.MethodName) ({ cls := "CharMachineModel", name := "part", desc := "()I" } : Jvm.MethodName)) ∈ BIG := List.mem_filter.mpr ⟨List.mem_of_getElem? (i := 39) (by decide +kernel), by decide +kernel⟩
theorem tp_40 : (Jvm.Cond.selects "CharMachineModel" ({ cls := "CharMachineModel", name := "compare", desc := "()I" } : Jvm.MethodName) ({ cls := "CharMachineModel", name := "compare", desc := "()I" } : Jvm.MethodName)) ∈ BIG := List.mem_filter.mpr ⟨List.mem_of_getElem? (i := 40) (by decide +kernel), by decide +kernel⟩
theorem tp_41 : (Jvm.Cond.selects "CharMachineModel" ({ cls := "CharMachineModel", name := "marks", desc := "()I" } : Jvm.MethodName) ({ cls := "CharMachineModel", name := "marks", desc := "()I" } : Jvm.MethodName)) ∈ BIG := List.mem_filter.mpr ⟨List.mem_of_getElem? (i := 41) (by decide +kernel), by decide +kernel⟩
theorem tp_42 : (Jvm.Cond.selects "CharMachineModel" ({ cls := "CharMachineModel", name := "clear", desc := "()I" } : Jvm.MethodName) ({ cls := "CharMachineModel", name := "clear", desc := "()I" } : Jvm.MethodName)) ∈ BIG := List.mem_filter.mpr ⟨List.mem_of_getElem? (i := 42) (by decide +kernel), by decide +kernel⟩
theorem tp_43 : (Jvm.Cond.selects "CharMachineModel" ({ cls := "CharMachineModel", name := "go", desc := "()V" } : Jvm.MethodName) ({ cls := "CharMachineModel", name := "go", desc := "()V" } : Jvm.MethodName)) ∈ BIG := List.mem_filter.mpr ⟨List.mem_of_getElem? (i := 43) (by decide +kernel), by decide +kernel⟩
theorem tp_44 : (Jvm.Cond.selects "CharMachineModel" ({ cls := "CharMachineModel", name := "edit", desc := "()I" } : Jvm.MethodName) ({ cls := "CharMachineModel", name := "edit", desc := "()I" } : Jvm.MethodName)) ∈ BIG := List.mem_filter.mpr ⟨List.mem_of_getElem? (i := 44) (by decide +kernel), by decide +kernel⟩
theorem tp_45 : (Jvm.Cond.selects "CharMachineModel" ({ cls := "CharMachineModel", name := "branch", desc := "()I" } : Jvm.MethodName) ({ cls := "CharMachineModel", name := "branch", desc := "()I" } : Jvm.MethodName)) ∈ BIG := List.mem_filter.mpr ⟨List.mem_of_getElem? (i := 45) (by decide +kernel), by decide +kernel⟩
theorem tp_46 : (Jvm.Cond.selects "CharMachineModel" ({ cls := "CharMachineModel", name := "modifier", desc := "()I" } : Jvm.MethodName) ({ cls := "CharMachineModel", name := "modifier", desc := "()I" } : Jvm.MethodName)) ∈ BIG := List.mem_filter.mpr ⟨List.mem_of_getElem? (i := 46) (by decide +kernel), by decide +kernel⟩
theorem tp_47 : (Jvm.Cond.selects "CharMachineModel" ({ cls := "CharMachineModel", name := "branchMark", desc := "()I" } : Jvm.MethodName) ({ cls := "CharMachineModel", name := "branchMark", desc := "()I" } : Jvm.MethodName)) ∈ BIG := List.mem_filter.mpr ⟨List.mem_of_getElem? (i := 47) (by decide +kernel), by decide +kernel⟩
theorem tp_48 : (Jvm.Cond.selects "CharMachineModel" ({ cls := "CharMachineModel", name := "device", desc := "()I" } : Jvm.MethodName) ({ cls := "CharMachineModel", name := "device", desc := "()I" } : Jvm.MethodName)) ∈ BIG := List.mem_filter.mpr ⟨List.mem_of_getElem? (i := 48) (by decide +kernel), by decide +kernel⟩
theorem tp_49 : (Jvm.Cond.selects "CharMachineModel" ({ cls := "CharMachineModel", name := "readCard", desc := "()I" } : Jvm.MethodName) ({ cls := "CharMachineModel", name := "readCard", desc := "()I" } : Jvm.MethodName)) ∈ BIG := List.mem_filter.mpr ⟨List.mem_of_getElem? (i := 49) (by decide +kernel), by decide +kernel⟩
theorem tp_50 : (Jvm.Cond.selects "CharMachineModel" ({ cls := "CharMachineModel", name := "print", desc := "()I" } : Jvm.MethodName) ({ cls := "CharMachineModel", name := "print", desc := "()I" } : Jvm.MethodName)) ∈ BIG := List.mem_filter.mpr ⟨List.mem_of_getElem? (i := 50) (by decide +kernel), by decide +kernel⟩
theorem tp_51 : (Jvm.Cond.selects "CharMachineModel" ({ cls := "CharMachineModel", name := "punchCard", desc := "()I" } : Jvm.MethodName) ({ cls := "CharMachineModel", name := "punchCard", desc := "()I" } : Jvm.MethodName)) ∈ BIG := List.mem_filter.mpr ⟨List.mem_of_getElem? (i := 51) (by decide +kernel), by decide +kernel⟩
theorem tp_52 : (Jvm.Cond.selects "CharMachineModel" ({ cls := "CharMachineModel", name := "keepRegister", desc := "()I" } : Jvm.MethodName) ({ cls := "CharMachineModel", name := "keepRegister", desc := "()I" } : Jvm.MethodName)) ∈ BIG := List.mem_filter.mpr ⟨List.mem_of_getElem? (i := 52) (by decide +kernel), by decide +kernel⟩
theorem tp_53 : (Jvm.Cond.selects "CharMachineModel" ({ cls := "CharMachineModel", name := "stopHere", desc := "()I" } : Jvm.MethodName) ({ cls := "CharMachineModel", name := "stopHere", desc := "()I" } : Jvm.MethodName)) ∈ BIG := List.mem_filter.mpr ⟨List.mem_of_getElem? (i := 53) (by decide +kernel), by decide +kernel⟩
theorem tw_0 : (Jvm.Cond.initialized "CharMachineLaw") ∈ BIG := List.mem_filter.mpr ⟨List.mem_of_getElem? (i := 54) (by decide +kernel), by decide +kernel⟩
theorem tw_1 : (Jvm.Cond.initialized "CharMachine") ∈ BIG := List.mem_filter.mpr ⟨List.mem_of_getElem? (i := 55) (by decide +kernel), by decide +kernel⟩
theorem tw_2 : (Jvm.Cond.initialized "CharMachine$Store") ∈ BIG := List.mem_filter.mpr ⟨List.mem_of_getElem? (i := 56) (by decide +kernel), by decide +kernel⟩
theorem tw_3 : (Jvm.Cond.initialized "CharMachine$Pile") ∈ BIG := List.mem_filter.mpr ⟨List.mem_of_getElem? (i := 57) (by decide +kernel), by decide +kernel⟩
theorem tw_4 : (Jvm.Cond.initialized "CharMachine$Processor") ∈ BIG := List.mem_filter.mpr ⟨List.mem_of_getElem? (i := 58) (by decide +kernel), by decide +kernel⟩
theorem tw_5 : (Jvm.Cond.initialized "CharMachine$Arithmetic") ∈ BIG := List.mem_filter.mpr ⟨List.mem_of_getElem? (i := 59) (by decide +kernel), by decide +kernel⟩
theorem tw_6 : (Jvm.Cond.initialized "CharMachineModel") ∈ BIG := List.mem_filter.mpr ⟨List.mem_of_getElem? (i := 60) (by decide +kernel), by decide +kernel⟩
theorem tw_7 : (Jvm.Cond.initialized "java/lang/Throwable") ∈ BIG := List.mem_filter.mpr ⟨List.mem_of_getElem? (i := 61) (by decide +kernel), by decide +kernel⟩
theorem tw_8 : (Jvm.Cond.initialized "java/lang/Exception") ∈ BIG := List.mem_filter.mpr ⟨List.mem_of_getElem? (i := 62) (by decide +kernel), by decide +kernel⟩
theorem tw_9 : (Jvm.Cond.initialized "java/lang/RuntimeException") ∈ BIG := List.mem_filter.mpr ⟨List.mem_of_getElem? (i := 63) (by decide +kernel), by decide +kernel⟩
theorem tw_10 : (Jvm.Cond.initialized "java/lang/IllegalArgumentException") ∈ BIG := List.mem_filter.mpr ⟨List.mem_of_getElem? (i := 64) (by decide +kernel), by decide +kernel⟩
theorem tw_11 : (Jvm.Cond.initialized "java/lang/IllegalStateException") ∈ BIG := List.mem_filter.mpr ⟨List.mem_of_getElem? (i := 65) (by decide +kernel), by decide +kernel⟩
theorem tw_12 : (Jvm.Cond.initialized "java/lang/Math") ∈ BIG := List.mem_filter.mpr ⟨List.mem_of_getElem? (i := 66) (by decide +kernel), by decide +kernel⟩
theorem tw_13 : (Jvm.Cond.initialized "java/lang/System") ∈ BIG := List.mem_filter.mpr ⟨List.mem_of_getElem? (i := 67) (by decide +kernel), by decide +kernel⟩
theorem tw_14 : (Jvm.Cond.initialized "java/lang/Integer") ∈ BIG := List.mem_filter.mpr ⟨List.mem_of_getElem? (i := 68) (by decide +kernel), by decide +kernel⟩
theorem tw_15 : (Jvm.Cond.initialized "java/lang/IndexOutOfBoundsException") ∈ BIG := List.mem_filter.mpr ⟨List.mem_of_getElem? (i := 69) (by decide +kernel), by decide +kernel⟩
theorem tw_16 : (Jvm.Cond.initialized "java/lang/UnsupportedOperationException") ∈ BIG := List.mem_filter.mpr ⟨List.mem_of_getElem? (i := 70) (by decide +kernel), by decide +kernel⟩
theorem tw_17 : (Jvm.Cond.classLink "CharMachineLaw" (8 : Nat) "CharMachine") ∈ BIG := List.mem_filter.mpr ⟨List.mem_of_getElem? (i := 71) (by decide +kernel), by decide +kernel⟩
theorem tw_18 : (Jvm.Cond.instantiable "CharMachine" (7 : Nat)) ∈ BIG := List.mem_filter.mpr ⟨List.mem_of_getElem? (i := 72) (by decide +kernel), by decide +kernel⟩
theorem tw_19 : (Jvm.Cond.methodLink "CharMachineLaw" (53 : Nat) ({ cls := "CharMachine", name := "<init>", desc := "(I)V" } : Jvm.MethodName)) ∈ BIG := List.mem_filter.mpr ⟨List.mem_of_getElem? (i := 73) (by decide +kernel), by decide +kernel⟩
theorem tw_20 : (Jvm.Cond.instanceMethod ({ cls := "CharMachine", name := "<init>", desc := "(I)V" } : Jvm.MethodName)) ∈ BIG := List.mem_filter.mpr ⟨List.mem_of_getElem? (i := 74) (by decide +kernel), by decide +kernel⟩
set_option maxRecDepth 100000 in
theorem tw_21 : (Jvm.Cond.code ({ cls := "CharMachine", name := "<init>", desc := "(I)V" } : Jvm.MethodName) prog_1_method_1_code (2 : Nat) (Option.none : Option Jvm.ClassFile.FieldType)) ∈ BIG := List.mem_filter.mpr ⟨List.mem_of_getElem? (i := 75) rfl, rfl⟩
theorem tw_22 : (Jvm.Cond.methodLink "CharMachine" (1 : Nat) ({ cls := "java/lang/Object", name := "<init>", desc := "()V" } : Jvm.MethodName)) ∈ BIG := List.mem_filter.mpr ⟨List.mem_of_getElem? (i := 76) (by decide +kernel), by decide +kernel⟩
theorem tw_23 : (Jvm.Cond.instanceMethod ({ cls := "java/lang/Object", name := "<init>", desc := "()V" } : Jvm.MethodName)) ∈ BIG := List.mem_filter.mpr ⟨List.mem_of_getElem? (i := 77) (by decide +kernel), by decide +kernel⟩
set_option maxRecDepth 100000 in
theorem tw_24 : (Jvm.Cond.code ({ cls := "java/lang/Object", name := "<init>", desc := "()V" } : Jvm.MethodName) object_method_1_code (1 : Nat) (Option.none : Option Jvm.ClassFile.FieldType)) ∈ BIG := List.mem_filter.mpr ⟨List.mem_of_getElem? (i := 78) rfl, rfl⟩
theorem tw_25 : (Jvm.Cond.classLink "CharMachine" (7 : Nat) "CharMachine$Store") ∈ BIG := List.mem_filter.mpr ⟨List.mem_of_getElem? (i := 79) (by decide +kernel), by decide +kernel⟩
theorem tw_26 : (Jvm.Cond.instantiable "CharMachine$Store" (1 : Nat)) ∈ BIG := List.mem_filter.mpr ⟨List.mem_of_getElem? (i := 80) (by decide +kernel), by decide +kernel⟩
theorem tw_27 : (Jvm.Cond.methodLink "CharMachine" (11 : Nat) ({ cls := "CharMachine$Store", name := "<init>", desc := "(I)V" } : Jvm.MethodName)) ∈ BIG := List.mem_filter.mpr ⟨List.mem_of_getElem? (i := 81) (by decide +kernel), by decide +kernel⟩
theorem tw_28 : (Jvm.Cond.instanceMethod ({ cls := "CharMachine$Store", name := "<init>", desc := "(I)V" } : Jvm.MethodName)) ∈ BIG := List.mem_filter.mpr ⟨List.mem_of_getElem? (i := 82) (by decide +kernel), by decide +kernel⟩
set_option maxRecDepth 100000 in
theorem tw_29 : (Jvm.Cond.code ({ cls := "CharMachine$Store", name := "<init>", desc := "(I)V" } : Jvm.MethodName) prog_5_method_1_code (2 : Nat) (Option.none : Option Jvm.ClassFile.FieldType)) ∈ BIG := List.mem_filter.mpr ⟨List.mem_of_getElem? (i := 83) rfl, rfl⟩
theorem tw_30 : (Jvm.Cond.methodLink "CharMachine$Store" (3 : Nat) ({ cls := "java/lang/Object", name := "<init>", desc := "()V" } : Jvm.MethodName)) ∈ BIG := List.mem_filter.mpr ⟨List.mem_of_getElem? (i := 84) (by decide +kernel), by decide +kernel⟩
theorem tw_31 : (Jvm.Cond.fieldLink "CharMachine$Store" (9 : Nat) "CharMachine$Store" "cells" "[I") ∈ BIG := List.mem_filter.mpr ⟨List.mem_of_getElem? (i := 85) (by decide +kernel), by decide +kernel⟩
theorem tw_32 : (Jvm.Cond.laysFinal "CharMachine$Store" "CharMachine$Store" "cells" "[I") ∈ BIG := List.mem_filter.mpr ⟨List.mem_of_getElem? (i := 86) (by decide +kernel), by decide +kernel⟩
theorem tw_35 : (Jvm.Cond.arrayClass Jvm.ClassFile.FieldType.int) ∈ BIG := List.mem_filter.mpr ⟨List.mem_of_getElem? (i := 89) (by decide +kernel), by decide +kernel⟩
theorem tw_36 : (Jvm.Cond.classLink "CharMachine" (18 : Nat) "CharMachine$Pile") ∈ BIG := List.mem_filter.mpr ⟨List.mem_of_getElem? (i := 90) (by decide +kernel), by decide +kernel⟩
theorem tw_37 : (Jvm.Cond.instantiable "CharMachine$Pile" (4 : Nat)) ∈ BIG := List.mem_filter.mpr ⟨List.mem_of_getElem? (i := 91) (by decide +kernel), by decide +kernel⟩
theorem tw_38 : (Jvm.Cond.methodLink "CharMachine" (20 : Nat) ({ cls := "CharMachine$Pile", name := "<init>", desc := "(II)V" } : Jvm.MethodName)) ∈ BIG := List.mem_filter.mpr ⟨List.mem_of_getElem? (i := 92) (by decide +kernel), by decide +kernel⟩
theorem tw_39 : (Jvm.Cond.instanceMethod ({ cls := "CharMachine$Pile", name := "<init>", desc := "(II)V" } : Jvm.MethodName)) ∈ BIG := List.mem_filter.mpr ⟨List.mem_of_getElem? (i := 93) (by decide +kernel), by decide +kernel⟩
set_option maxRecDepth 100000 in
theorem tw_40 : (Jvm.Cond.code ({ cls := "CharMachine$Pile", name := "<init>", desc := "(II)V" } : Jvm.MethodName) prog_3_method_1_code (3 : Nat) (Option.none : Option Jvm.ClassFile.FieldType)) ∈ BIG := List.mem_filter.mpr ⟨List.mem_of_getElem? (i := 94) rfl, rfl⟩
theorem tw_41 : (Jvm.Cond.methodLink "CharMachine$Pile" (1 : Nat) ({ cls := "java/lang/Object", name := "<init>", desc := "()V" } : Jvm.MethodName)) ∈ BIG := List.mem_filter.mpr ⟨List.mem_of_getElem? (i := 95) (by decide +kernel), by decide +kernel⟩
theorem tw_42 : (Jvm.Cond.fieldLink "CharMachine$Pile" (7 : Nat) "CharMachine$Pile" "limit" "I") ∈ BIG := List.mem_filter.mpr ⟨List.mem_of_getElem? (i := 96) (by decide +kernel), by decide +kernel⟩
theorem tw_43 : (Jvm.Cond.fieldLink "CharMachine$Pile" (13 : Nat) "CharMachine$Pile" "width" "I") ∈ BIG := List.mem_filter.mpr ⟨List.mem_of_getElem? (i := 97) (by decide +kernel), by decide +kernel⟩
theorem tw_44 : (Jvm.Cond.fieldLink "CharMachine$Pile" (16 : Nat) "CharMachine$Pile" "columns" "[I") ∈ BIG := List.mem_filter.mpr ⟨List.mem_of_getElem? (i := 98) (by decide +kernel), by decide +kernel⟩
theorem tw_45 : (Jvm.Cond.fieldLink "CharMachine$Pile" (20 : Nat) "CharMachine$Pile" "filled" "I") ∈ BIG := List.mem_filter.mpr ⟨List.mem_of_getElem? (i := 99) (by decide +kernel), by decide +kernel⟩
theorem tw_46 : (Jvm.Cond.laysFinal "CharMachine$Pile" "CharMachine$Pile" "limit" "I") ∈ BIG := List.mem_filter.mpr ⟨List.mem_of_getElem? (i := 100) (by decide +kernel), by decide +kernel⟩
theorem tw_48 : (Jvm.Cond.laysFinal "CharMachine$Pile" "CharMachine$Pile" "width" "I") ∈ BIG := List.mem_filter.mpr ⟨List.mem_of_getElem? (i := 102) (by decide +kernel), by decide +kernel⟩
theorem tw_50 : (Jvm.Cond.laysFinal "CharMachine$Pile" "CharMachine$Pile" "columns" "[I") ∈ BIG := List.mem_filter.mpr ⟨List.mem_of_getElem? (i := 104) (by decide +kernel), by decide +kernel⟩
theorem tw_52 : (Jvm.Cond.lays "CharMachine$Pile" "CharMachine$Pile" "filled" "I") ∈ BIG := List.mem_filter.mpr ⟨List.mem_of_getElem? (i := 106) (by decide +kernel), by decide +kernel⟩
theorem tw_55 : (Jvm.Cond.classLink "CharMachine" (33 : Nat) "CharMachine$Processor") ∈ BIG := List.mem_filter.mpr ⟨List.mem_of_getElem? (i := 109) (by decide +kernel), by decide +kernel⟩
theorem tw_56 : (Jvm.Cond.instantiable "CharMachine$Processor" (12 : Nat)) ∈ BIG := List.mem_filter.mpr ⟨List.mem_of_getElem? (i := 110) (by decide +kernel), by decide +kernel⟩
theorem tw_57 : (Jvm.Cond.methodLink "CharMachine" (35 : Nat) ({ cls := "CharMachine$Processor", name := "<init>", desc := "(LCharMachine$Store;LCharMachine$Pile;LCharMachine$Pile;LCharMachine$Pile;)V" } : Jvm.MethodName)) ∈ BIG := List.mem_filter.mpr ⟨List.mem_of_getElem? (i := 111) (by decide +kernel), by decide +kernel⟩
theorem tw_58 : (Jvm.Cond.instanceMethod ({ cls := "CharMachine$Processor", name := "<init>", desc := "(LCharMachine$Store;LCharMachine$Pile;LCharMachine$Pile;LCharMachine$Pile;)V" } : Jvm.MethodName)) ∈ BIG := List.mem_filter.mpr ⟨List.mem_of_getElem? (i := 112) (by decide +kernel), by decide +kernel⟩
set_option maxRecDepth 100000 in
theorem tw_59 : (Jvm.Cond.code ({ cls := "CharMachine$Processor", name := "<init>", desc := "(LCharMachine$Store;LCharMachine$Pile;LCharMachine$Pile;LCharMachine$Pile;)V" } : Jvm.MethodName) prog_4_method_1_code (5 : Nat) (Option.none : Option Jvm.ClassFile.FieldType)) ∈ BIG := List.mem_filter.mpr ⟨List.mem_of_getElem? (i := 113) rfl, rfl⟩
theorem tw_60 : (Jvm.Cond.methodLink "CharMachine$Processor" (3 : Nat) ({ cls := "java/lang/Object", name := "<init>", desc := "()V" } : Jvm.MethodName)) ∈ BIG := List.mem_filter.mpr ⟨List.mem_of_getElem? (i := 114) (by decide +kernel), by decide +kernel⟩
theorem tw_61 : (Jvm.Cond.classLink "CharMachine$Processor" (25 : Nat) "CharMachine$Arithmetic") ∈ BIG := List.mem_filter.mpr ⟨List.mem_of_getElem? (i := 115) (by decide +kernel), by decide +kernel⟩
theorem tw_62 : (Jvm.Cond.instantiable "CharMachine$Arithmetic" (2 : Nat)) ∈ BIG := List.mem_filter.mpr ⟨List.mem_of_getElem? (i := 116) (by decide +kernel), by decide +kernel⟩
theorem tw_63 : (Jvm.Cond.methodLink "CharMachine$Processor" (27 : Nat) ({ cls := "CharMachine$Arithmetic", name := "<init>", desc := "(LCharMachine$Store;)V" } : Jvm.MethodName)) ∈ BIG := List.mem_filter.mpr ⟨List.mem_of_getElem? (i := 117) (by decide +kernel), by decide +kernel⟩
theorem tw_64 : (Jvm.Cond.instanceMethod ({ cls := "CharMachine$Arithmetic", name := "<init>", desc := "(LCharMachine$Store;)V" } : Jvm.MethodName)) ∈ BIG := List.mem_filter.mpr ⟨List.mem_of_getElem? (i := 118) (by decide +kernel), by decide +kernel⟩
set_option maxRecDepth 100000 in
theorem tw_65 : (Jvm.Cond.code ({ cls := "CharMachine$Arithmetic", name := "<init>", desc := "(LCharMachine$Store;)V" } : Jvm.MethodName) prog_2_method_1_code (2 : Nat) (Option.none : Option Jvm.ClassFile.FieldType)) ∈ BIG := List.mem_filter.mpr ⟨List.mem_of_getElem? (i := 119) rfl, rfl⟩
theorem tw_66 : (Jvm.Cond.methodLink "CharMachine$Arithmetic" (1 : Nat) ({ cls := "java/lang/Object", name := "<init>", desc := "()V" } : Jvm.MethodName)) ∈ BIG := List.mem_filter.mpr ⟨List.mem_of_getElem? (i := 120) (by decide +kernel), by decide +kernel⟩
theorem tw_67 : (Jvm.Cond.methodLink "CharMachine$Arithmetic" (13 : Nat) ({ cls := "CharMachine$Store", name := "size", desc := "()I" } : Jvm.MethodName)) ∈ BIG := List.mem_filter.mpr ⟨List.mem_of_getElem? (i := 121) (by decide +kernel), by decide +kernel⟩
theorem tw_68 : (Jvm.Cond.instanceMethod ({ cls := "CharMachine$Store", name := "size", desc := "()I" } : Jvm.MethodName)) ∈ BIG := List.mem_filter.mpr ⟨List.mem_of_getElem? (i := 122) (by decide +kernel), by decide +kernel⟩
theorem tw_69 : (Jvm.Cond.selects "CharMachine$Store" ({ cls := "CharMachine$Store", name := "size", desc := "()I" } : Jvm.MethodName) ({ cls := "CharMachine$Store", name := "size", desc := "()I" } : Jvm.MethodName)) ∈ BIG := List.mem_filter.mpr ⟨List.mem_of_getElem? (i := 123) (by decide +kernel), by decide +kernel⟩
set_option maxRecDepth 100000 in
theorem tw_70 : (Jvm.Cond.code ({ cls := "CharMachine$Store", name := "size", desc := "()I" } : Jvm.MethodName) prog_5_method_2_code (1 : Nat) (Option.some Jvm.ClassFile.FieldType.int)) ∈ BIG := List.mem_filter.mpr ⟨List.mem_of_getElem? (i := 124) rfl, rfl⟩
theorem tw_71 : (Jvm.Cond.fieldLink "CharMachine$Arithmetic" (7 : Nat) "CharMachine$Arithmetic" "store" "LCharMachine$Store;") ∈ BIG := List.mem_filter.mpr ⟨List.mem_of_getElem? (i := 125) (by decide +kernel), by decide +kernel⟩
theorem tw_72 : (Jvm.Cond.fieldLink "CharMachine$Arithmetic" (19 : Nat) "CharMachine$Arithmetic" "digits" "[I") ∈ BIG := List.mem_filter.mpr ⟨List.mem_of_getElem? (i := 126) (by decide +kernel), by decide +kernel⟩
theorem tw_73 : (Jvm.Cond.laysFinal "CharMachine$Arithmetic" "CharMachine$Arithmetic" "store" "LCharMachine$Store;") ∈ BIG := List.mem_filter.mpr ⟨List.mem_of_getElem? (i := 127) (by decide +kernel), by decide +kernel⟩
theorem tw_75 : (Jvm.Cond.laysFinal "CharMachine$Arithmetic" "CharMachine$Arithmetic" "digits" "[I") ∈ BIG := List.mem_filter.mpr ⟨List.mem_of_getElem? (i := 129) (by decide +kernel), by decide +kernel⟩
theorem tw_78 : (Jvm.Cond.fieldLink "CharMachine$Processor" (9 : Nat) "CharMachine$Processor" "store" "LCharMachine$Store;") ∈ BIG := List.mem_filter.mpr ⟨List.mem_of_getElem? (i := 132) (by decide +kernel), by decide +kernel⟩
theorem tw_79 : (Jvm.Cond.fieldLink "CharMachine$Processor" (15 : Nat) "CharMachine$Processor" "cards" "LCharMachine$Pile;") ∈ BIG := List.mem_filter.mpr ⟨List.mem_of_getElem? (i := 133) (by decide +kernel), by decide +kernel⟩
theorem tw_80 : (Jvm.Cond.fieldLink "CharMachine$Processor" (19 : Nat) "CharMachine$Processor" "lines" "LCharMachine$Pile;") ∈ BIG := List.mem_filter.mpr ⟨List.mem_of_getElem? (i := 134) (by decide +kernel), by decide +kernel⟩
theorem tw_81 : (Jvm.Cond.fieldLink "CharMachine$Processor" (22 : Nat) "CharMachine$Processor" "punches" "LCharMachine$Pile;") ∈ BIG := List.mem_filter.mpr ⟨List.mem_of_getElem? (i := 135) (by decide +kernel), by decide +kernel⟩
theorem tw_82 : (Jvm.Cond.fieldLink "CharMachine$Processor" (30 : Nat) "CharMachine$Processor" "arithmetic" "LCharMachine$Arithmetic;") ∈ BIG := List.mem_filter.mpr ⟨List.mem_of_getElem? (i := 136) (by decide +kernel), by decide +kernel⟩
theorem tw_83 : (Jvm.Cond.fieldLink "CharMachine$Processor" (44 : Nat) "CharMachine$Processor" "i" "I") ∈ BIG := List.mem_filter.mpr ⟨List.mem_of_getElem? (i := 137) (by decide +kernel), by decide +kernel⟩
theorem tw_85 : (Jvm.Cond.fieldLink "CharMachine$Processor" (67 : Nat) "CharMachine$Processor" "a" "I") ∈ BIG := List.mem_filter.mpr ⟨List.mem_of_getElem? (i := 139) (by decide +kernel), by decide +kernel⟩
theorem tw_87 : (Jvm.Cond.fieldLink "CharMachine$Processor" (81 : Nat) "CharMachine$Processor" "b" "I") ∈ BIG := List.mem_filter.mpr ⟨List.mem_of_getElem? (i := 141) (by decide +kernel), by decide +kernel⟩
theorem tw_90 : (Jvm.Cond.fieldLink "CharMachine$Processor" (187 : Nat) "CharMachine$Processor" "comparison" "I") ∈ BIG := List.mem_filter.mpr ⟨List.mem_of_getElem? (i := 144) (by decide +kernel), by decide +kernel⟩
theorem tw_92 : (Jvm.Cond.fieldLink "CharMachine$Processor" (161 : Nat) "CharMachine$Processor" "overflow" "Z") ∈ BIG := List.mem_filter.mpr ⟨List.mem_of_getElem? (i := 146) (by decide +kernel), by decide +kernel⟩
theorem tw_94 : (Jvm.Cond.fieldLink "CharMachine$Processor" (219 : Nat) "CharMachine$Processor" "lastCard" "Z") ∈ BIG := List.mem_filter.mpr ⟨List.mem_of_getElem? (i := 148) (by decide +kernel), by decide +kernel⟩
theorem tw_95 : (Jvm.Cond.fieldLink "CharMachine$Processor" (40 : Nat) "CharMachine$Processor" "cardsRead" "I") ∈ BIG := List.mem_filter.mpr ⟨List.mem_of_getElem? (i := 149) (by decide +kernel), by decide +kernel⟩
theorem tw_96 : (Jvm.Cond.laysFinal "CharMachine$Processor" "CharMachine$Processor" "store" "LCharMachine$Store;") ∈ BIG := List.mem_filter.mpr ⟨List.mem_of_getElem? (i := 150) (by decide +kernel), by decide +kernel⟩
theorem tw_98 : (Jvm.Cond.laysFinal "CharMachine$Processor" "CharMachine$Processor" "cards" "LCharMachine$Pile;") ∈ BIG := List.mem_filter.mpr ⟨List.mem_of_getElem? (i := 152) (by decide +kernel), by decide +kernel⟩
theorem tw_100 : (Jvm.Cond.laysFinal "CharMachine$Processor" "CharMachine$Processor" "lines" "LCharMachine$Pile;") ∈ BIG := List.mem_filter.mpr ⟨List.mem_of_getElem? (i := 154) (by decide +kernel), by decide +kernel⟩
theorem tw_102 : (Jvm.Cond.laysFinal "CharMachine$Processor" "CharMachine$Processor" "punches" "LCharMachine$Pile;") ∈ BIG := List.mem_filter.mpr ⟨List.mem_of_getElem? (i := 156) (by decide +kernel), by decide +kernel⟩
theorem tw_104 : (Jvm.Cond.laysFinal "CharMachine$Processor" "CharMachine$Processor" "arithmetic" "LCharMachine$Arithmetic;") ∈ BIG := List.mem_filter.mpr ⟨List.mem_of_getElem? (i := 158) (by decide +kernel), by decide +kernel⟩
theorem tw_106 : (Jvm.Cond.lays "CharMachine$Processor" "CharMachine$Processor" "i" "I") ∈ BIG := List.mem_filter.mpr ⟨List.mem_of_getElem? (i := 160) (by decide +kernel), by decide +kernel⟩
theorem tw_108 : (Jvm.Cond.lays "CharMachine$Processor" "CharMachine$Processor" "a" "I") ∈ BIG := List.mem_filter.mpr ⟨List.mem_of_getElem? (i := 162) (by decide +kernel), by decide +kernel⟩
theorem tw_110 : (Jvm.Cond.lays "CharMachine$Processor" "CharMachine$Processor" "b" "I") ∈ BIG := List.mem_filter.mpr ⟨List.mem_of_getElem? (i := 164) (by decide +kernel), by decide +kernel⟩
theorem tw_112 : (Jvm.Cond.lays "CharMachine$Processor" "CharMachine$Processor" "comparison" "I") ∈ BIG := List.mem_filter.mpr ⟨List.mem_of_getElem? (i := 166) (by decide +kernel), by decide +kernel⟩
theorem tw_114 : (Jvm.Cond.lays "CharMachine$Processor" "CharMachine$Processor" "overflow" "Z") ∈ BIG := List.mem_filter.mpr ⟨List.mem_of_getElem? (i := 168) (by decide +kernel), by decide +kernel⟩
theorem tw_116 : (Jvm.Cond.lays "CharMachine$Processor" "CharMachine$Processor" "lastCard" "Z") ∈ BIG := List.mem_filter.mpr ⟨List.mem_of_getElem? (i := 170) (by decide +kernel), by decide +kernel⟩
theorem tw_118 : (Jvm.Cond.lays "CharMachine$Processor" "CharMachine$Processor" "cardsRead" "I") ∈ BIG := List.mem_filter.mpr ⟨List.mem_of_getElem? (i := 172) (by decide +kernel), by decide +kernel⟩
theorem tw_121 : (Jvm.Cond.fieldLink "CharMachine" (14 : Nat) "CharMachine" "store" "LCharMachine$Store;") ∈ BIG := List.mem_filter.mpr ⟨List.mem_of_getElem? (i := 175) (by decide +kernel), by decide +kernel⟩
theorem tw_122 : (Jvm.Cond.fieldLink "CharMachine" (23 : Nat) "CharMachine" "cards" "LCharMachine$Pile;") ∈ BIG := List.mem_filter.mpr ⟨List.mem_of_getElem? (i := 176) (by decide +kernel), by decide +kernel⟩
theorem tw_123 : (Jvm.Cond.fieldLink "CharMachine" (27 : Nat) "CharMachine" "lines" "LCharMachine$Pile;") ∈ BIG := List.mem_filter.mpr ⟨List.mem_of_getElem? (i := 177) (by decide +kernel), by decide +kernel⟩
theorem tw_124 : (Jvm.Cond.fieldLink "CharMachine" (30 : Nat) "CharMachine" "punches" "LCharMachine$Pile;") ∈ BIG := List.mem_filter.mpr ⟨List.mem_of_getElem? (i := 178) (by decide +kernel), by decide +kernel⟩
theorem tw_125 : (Jvm.Cond.fieldLink "CharMachine" (38 : Nat) "CharMachine" "processor" "LCharMachine$Processor;") ∈ BIG := List.mem_filter.mpr ⟨List.mem_of_getElem? (i := 179) (by decide +kernel), by decide +kernel⟩
theorem tw_126 : (Jvm.Cond.fieldLink "CharMachine" (91 : Nat) "CharMachine" "stepsSoFar" "I") ∈ BIG := List.mem_filter.mpr ⟨List.mem_of_getElem? (i := 180) (by decide +kernel), by decide +kernel⟩
theorem tw_127 : (Jvm.Cond.fieldLink "CharMachine" (94 : Nat) "CharMachine" "latestAnswer" "I") ∈ BIG := List.mem_filter.mpr ⟨List.mem_of_getElem? (i := 181) (by decide +kernel), by decide +kernel⟩
theorem tw_128 : (Jvm.Cond.laysFinal "CharMachine" "CharMachine" "store" "LCharMachine$Store;") ∈ BIG := List.mem_filter.mpr ⟨List.mem_of_getElem? (i := 182) (by decide +kernel), by decide +kernel⟩
theorem tw_130 : (Jvm.Cond.laysFinal "CharMachine" "CharMachine" "cards" "LCharMachine$Pile;") ∈ BIG := List.mem_filter.mpr ⟨List.mem_of_getElem? (i := 184) (by decide +kernel), by decide +kernel⟩
theorem tw_132 : (Jvm.Cond.laysFinal "CharMachine" "CharMachine" "lines" "LCharMachine$Pile;") ∈ BIG := List.mem_filter.mpr ⟨List.mem_of_getElem? (i := 186) (by decide +kernel), by decide +kernel⟩
theorem tw_134 : (Jvm.Cond.laysFinal "CharMachine" "CharMachine" "punches" "LCharMachine$Pile;") ∈ BIG := List.mem_filter.mpr ⟨List.mem_of_getElem? (i := 188) (by decide +kernel), by decide +kernel⟩
theorem tw_136 : (Jvm.Cond.laysFinal "CharMachine" "CharMachine" "processor" "LCharMachine$Processor;") ∈ BIG := List.mem_filter.mpr ⟨List.mem_of_getElem? (i := 190) (by decide +kernel), by decide +kernel⟩
theorem tw_138 : (Jvm.Cond.lays "CharMachine" "CharMachine" "stepsSoFar" "I") ∈ BIG := List.mem_filter.mpr ⟨List.mem_of_getElem? (i := 192) (by decide +kernel), by decide +kernel⟩
theorem tw_140 : (Jvm.Cond.lays "CharMachine" "CharMachine" "latestAnswer" "I") ∈ BIG := List.mem_filter.mpr ⟨List.mem_of_getElem? (i := 194) (by decide +kernel), by decide +kernel⟩
theorem tw_143 : (Jvm.Cond.methodLink "CharMachineLaw" (59 : Nat) ({ cls := "CharMachine", name := "set", desc := "(IIZ)Z" } : Jvm.MethodName)) ∈ BIG := List.mem_filter.mpr ⟨List.mem_of_getElem? (i := 197) (by decide +kernel), by decide +kernel⟩
theorem tw_144 : (Jvm.Cond.instanceMethod ({ cls := "CharMachine", name := "set", desc := "(IIZ)Z" } : Jvm.MethodName)) ∈ BIG := List.mem_filter.mpr ⟨List.mem_of_getElem? (i := 198) (by decide +kernel), by decide +kernel⟩
theorem tw_145 : (Jvm.Cond.selects "CharMachine" ({ cls := "CharMachine", name := "set", desc := "(IIZ)Z" } : Jvm.MethodName) ({ cls := "CharMachine", name := "set", desc := "(IIZ)Z" } : Jvm.MethodName)) ∈ BIG := List.mem_filter.mpr ⟨List.mem_of_getElem? (i := 199) (by decide +kernel), by decide +kernel⟩
set_option maxRecDepth 100000 in
theorem tw_146 : (Jvm.Cond.code ({ cls := "CharMachine", name := "set", desc := "(IIZ)Z" } : Jvm.MethodName) prog_1_method_2_code (4 : Nat) (Option.some Jvm.ClassFile.FieldType.boolean)) ∈ BIG := List.mem_filter.mpr ⟨List.mem_of_getElem? (i := 200) rfl, rfl⟩
theorem tw_147 : (Jvm.Cond.methodLink "CharMachine" (42 : Nat) ({ cls := "CharMachine$Store", name := "has", desc := "(I)Z" } : Jvm.MethodName)) ∈ BIG := List.mem_filter.mpr ⟨List.mem_of_getElem? (i := 201) (by decide +kernel), by decide +kernel⟩
theorem tw_148 : (Jvm.Cond.instanceMethod ({ cls := "CharMachine$Store", name := "has", desc := "(I)Z" } : Jvm.MethodName)) ∈ BIG := List.mem_filter.mpr ⟨List.mem_of_getElem? (i := 202) (by decide +kernel), by decide +kernel⟩
theorem tw_149 : (Jvm.Cond.selects "CharMachine$Store" ({ cls := "CharMachine$Store", name := "has", desc := "(I)Z" } : Jvm.MethodName) ({ cls := "CharMachine$Store", name := "has", desc := "(I)Z" } : Jvm.MethodName)) ∈ BIG := List.mem_filter.mpr ⟨List.mem_of_getElem? (i := 203) (by decide +kernel), by decide +kernel⟩
set_option maxRecDepth 100000 in
theorem tw_150 : (Jvm.Cond.code ({ cls := "CharMachine$Store", name := "has", desc := "(I)Z" } : Jvm.MethodName) prog_5_method_3_code (2 : Nat) (Option.some Jvm.ClassFile.FieldType.boolean)) ∈ BIG := List.mem_filter.mpr ⟨List.mem_of_getElem? (i := 204) rfl, rfl⟩
theorem tw_151 : (Jvm.Cond.methodLink "CharMachine" (46 : Nat) ({ cls := "CharMachine", name := "isCharacter", desc := "(I)Z" } : Jvm.MethodName)) ∈ BIG := List.mem_filter.mpr ⟨List.mem_of_getElem? (i := 205) (by decide +kernel), by decide +kernel⟩
theorem tw_152 : (Jvm.Cond.static ({ cls := "CharMachine", name := "isCharacter", desc := "(I)Z" } : Jvm.MethodName)) ∈ BIG := List.mem_filter.mpr ⟨List.mem_of_getElem? (i := 206) (by decide +kernel), by decide +kernel⟩
set_option maxRecDepth 100000 in
theorem tw_153 : (Jvm.Cond.code ({ cls := "CharMachine", name := "isCharacter", desc := "(I)Z" } : Jvm.MethodName) prog_1_method_15_code (1 : Nat) (Option.some Jvm.ClassFile.FieldType.boolean)) ∈ BIG := List.mem_filter.mpr ⟨List.mem_of_getElem? (i := 207) rfl, rfl⟩
theorem tw_154 : (Jvm.Cond.methodLink "CharMachine" (49 : Nat) ({ cls := "CharMachine$Store", name := "place", desc := "(IIZ)V" } : Jvm.MethodName)) ∈ BIG := List.mem_filter.mpr ⟨List.mem_of_getElem? (i := 208) (by decide +kernel), by decide +kernel⟩
theorem tw_155 : (Jvm.Cond.instanceMethod ({ cls := "CharMachine$Store", name := "place", desc := "(IIZ)V" } : Jvm.MethodName)) ∈ BIG := List.mem_filter.mpr ⟨List.mem_of_getElem? (i := 209) (by decide +kernel), by decide +kernel⟩
theorem tw_156 : (Jvm.Cond.selects "CharMachine$Store" ({ cls := "CharMachine$Store", name := "place", desc := "(IIZ)V" } : Jvm.MethodName) ({ cls := "CharMachine$Store", name := "place", desc := "(IIZ)V" } : Jvm.MethodName)) ∈ BIG := List.mem_filter.mpr ⟨List.mem_of_getElem? (i := 210) (by decide +kernel), by decide +kernel⟩
set_option maxRecDepth 100000 in
theorem tw_157 : (Jvm.Cond.code ({ cls := "CharMachine$Store", name := "place", desc := "(IIZ)V" } : Jvm.MethodName) prog_5_method_10_code (4 : Nat) (Option.none : Option Jvm.ClassFile.FieldType)) ∈ BIG := List.mem_filter.mpr ⟨List.mem_of_getElem? (i := 211) rfl, rfl⟩
theorem tw_158 : (Jvm.Cond.methodLink "CharMachineLaw" (73 : Nat) ({ cls := "CharMachine", name := "column", desc := "(II)Z" } : Jvm.MethodName)) ∈ BIG := List.mem_filter.mpr ⟨List.mem_of_getElem? (i := 212) (by decide +kernel), by decide +kernel⟩
theorem tw_159 : (Jvm.Cond.instanceMethod ({ cls := "CharMachine", name := "column", desc := "(II)Z" } : Jvm.MethodName)) ∈ BIG := List.mem_filter.mpr ⟨List.mem_of_getElem? (i := 213) (by decide +kernel), by decide +kernel⟩
theorem tw_160 : (Jvm.Cond.selects "CharMachine" ({ cls := "CharMachine", name := "column", desc := "(II)Z" } : Jvm.MethodName) ({ cls := "CharMachine", name := "column", desc := "(II)Z" } : Jvm.MethodName)) ∈ BIG := List.mem_filter.mpr ⟨List.mem_of_getElem? (i := 214) (by decide +kernel), by decide +kernel⟩
set_option maxRecDepth 100000 in
theorem tw_161 : (Jvm.Cond.code ({ cls := "CharMachine", name := "column", desc := "(II)Z" } : Jvm.MethodName) prog_1_method_4_code (3 : Nat) (Option.some Jvm.ClassFile.FieldType.boolean)) ∈ BIG := List.mem_filter.mpr ⟨List.mem_of_getElem? (i := 215) rfl, rfl⟩
theorem tw_162 : (Jvm.Cond.methodLink "CharMachine" (68 : Nat) ({ cls := "CharMachine$Pile", name := "write", desc := "(II)V" } : Jvm.MethodName)) ∈ BIG := List.mem_filter.mpr ⟨List.mem_of_getElem? (i := 216) (by decide +kernel), by decide +kernel⟩
theorem tw_163 : (Jvm.Cond.instanceMethod ({ cls := "CharMachine$Pile", name := "write", desc := "(II)V" } : Jvm.MethodName)) ∈ BIG := List.mem_filter.mpr ⟨List.mem_of_getElem? (i := 217) (by decide +kernel), by decide +kernel⟩
theorem tw_164 : (Jvm.Cond.selects "CharMachine$Pile" ({ cls := "CharMachine$Pile", name := "write", desc := "(II)V" } : Jvm.MethodName) ({ cls := "CharMachine$Pile", name := "write", desc := "(II)V" } : Jvm.MethodName)) ∈ BIG := List.mem_filter.mpr ⟨List.mem_of_getElem? (i := 218) (by decide +kernel), by decide +kernel⟩
set_option maxRecDepth 100000 in
theorem tw_165 : (Jvm.Cond.code ({ cls := "CharMachine$Pile", name := "write", desc := "(II)V" } : Jvm.MethodName) prog_3_method_6_code (3 : Nat) (Option.none : Option Jvm.ClassFile.FieldType)) ∈ BIG := List.mem_filter.mpr ⟨List.mem_of_getElem? (i := 219) rfl, rfl⟩
theorem tw_166 : (Jvm.Cond.methodLink "CharMachineLaw" (82 : Nat) ({ cls := "CharMachine", name := "start", desc := "(I)Z" } : Jvm.MethodName)) ∈ BIG := List.mem_filter.mpr ⟨List.mem_of_getElem? (i := 220) (by decide +kernel), by decide +kernel⟩
theorem tw_167 : (Jvm.Cond.instanceMethod ({ cls := "CharMachine", name := "start", desc := "(I)Z" } : Jvm.MethodName)) ∈ BIG := List.mem_filter.mpr ⟨List.mem_of_getElem? (i := 221) (by decide +kernel), by decide +kernel⟩
theorem tw_168 : (Jvm.Cond.selects "CharMachine" ({ cls := "CharMachine", name := "start", desc := "(I)Z" } : Jvm.MethodName) ({ cls := "CharMachine", name := "start", desc := "(I)Z" } : Jvm.MethodName)) ∈ BIG := List.mem_filter.mpr ⟨List.mem_of_getElem? (i := 222) (by decide +kernel), by decide +kernel⟩
set_option maxRecDepth 100000 in
theorem tw_169 : (Jvm.Cond.code ({ cls := "CharMachine", name := "start", desc := "(I)Z" } : Jvm.MethodName) prog_1_method_6_code (2 : Nat) (Option.some Jvm.ClassFile.FieldType.boolean)) ∈ BIG := List.mem_filter.mpr ⟨List.mem_of_getElem? (i := 223) rfl, rfl⟩
theorem tw_170 : (Jvm.Cond.methodLink "CharMachineLaw" (96 : Nat) ({ cls := "CharMachine", name := "state", desc := "(I)I" } : Jvm.MethodName)) ∈ BIG := List.mem_filter.mpr ⟨List.mem_of_getElem? (i := 224) (by decide +kernel), by decide +kernel⟩
theorem tw_171 : (Jvm.Cond.instanceMethod ({ cls := "CharMachine", name := "state", desc := "(I)I" } : Jvm.MethodName)) ∈ BIG := List.mem_filter.mpr ⟨List.mem_of_getElem? (i := 225) (by decide +kernel), by decide +kernel⟩
theorem tw_172 : (Jvm.Cond.selects "CharMachine" ({ cls := "CharMachine", name := "state", desc := "(I)I" } : Jvm.MethodName) ({ cls := "CharMachine", name := "state", desc := "(I)I" } : Jvm.MethodName)) ∈ BIG := List.mem_filter.mpr ⟨List.mem_of_getElem? (i := 226) (by decide +kernel), by decide +kernel⟩
set_option maxRecDepth 100000 in
theorem tw_173 : (Jvm.Cond.code ({ cls := "CharMachine", name := "state", desc := "(I)I" } : Jvm.MethodName) prog_1_method_10_code (2 : Nat) (Option.some Jvm.ClassFile.FieldType.int)) ∈ BIG := List.mem_filter.mpr ⟨List.mem_of_getElem? (i := 227) rfl, rfl⟩
theorem tw_174 : (Jvm.Cond.methodLink "CharMachine" (57 : Nat) ({ cls := "CharMachine$Store", name := "size", desc := "()I" } : Jvm.MethodName)) ∈ BIG := List.mem_filter.mpr ⟨List.mem_of_getElem? (i := 228) (by decide +kernel), by decide +kernel⟩
theorem tw_175 : (Jvm.Cond.methodLink "CharMachineLaw" (110 : Nat) ({ cls := "CharMachine", name := "count", desc := "(I)I" } : Jvm.MethodName)) ∈ BIG := List.mem_filter.mpr ⟨List.mem_of_getElem? (i := 229) (by decide +kernel), by decide +kernel⟩
theorem tw_176 : (Jvm.Cond.instanceMethod ({ cls := "CharMachine", name := "count", desc := "(I)I" } : Jvm.MethodName)) ∈ BIG := List.mem_filter.mpr ⟨List.mem_of_getElem? (i := 230) (by decide +kernel), by decide +kernel⟩
theorem tw_177 : (Jvm.Cond.selects "CharMachine" ({ cls := "CharMachine", name := "count", desc := "(I)I" } : Jvm.MethodName) ({ cls := "CharMachine", name := "count", desc := "(I)I" } : Jvm.MethodName)) ∈ BIG := List.mem_filter.mpr ⟨List.mem_of_getElem? (i := 231) (by decide +kernel), by decide +kernel⟩
set_option maxRecDepth 100000 in
theorem tw_178 : (Jvm.Cond.code ({ cls := "CharMachine", name := "count", desc := "(I)I" } : Jvm.MethodName) prog_1_method_14_code (2 : Nat) (Option.some Jvm.ClassFile.FieldType.int)) ∈ BIG := List.mem_filter.mpr ⟨List.mem_of_getElem? (i := 232) rfl, rfl⟩
theorem tw_179 : (Jvm.Cond.methodLink "CharMachine" (81 : Nat) ({ cls := "CharMachine$Processor", name := "cardsToRead", desc := "()I" } : Jvm.MethodName)) ∈ BIG := List.mem_filter.mpr ⟨List.mem_of_getElem? (i := 233) (by decide +kernel), by decide +kernel⟩
theorem tw_180 : (Jvm.Cond.instanceMethod ({ cls := "CharMachine$Processor", name := "cardsToRead", desc := "()I" } : Jvm.MethodName)) ∈ BIG := List.mem_filter.mpr ⟨List.mem_of_getElem? (i := 234) (by decide +kernel), by decide +kernel⟩
theorem tw_181 : (Jvm.Cond.selects "CharMachine$Processor" ({ cls := "CharMachine$Processor", name := "cardsToRead", desc := "()I" } : Jvm.MethodName) ({ cls := "CharMachine$Processor", name := "cardsToRead", desc := "()I" } : Jvm.MethodName)) ∈ BIG := List.mem_filter.mpr ⟨List.mem_of_getElem? (i := 235) (by decide +kernel), by decide +kernel⟩
set_option maxRecDepth 100000 in
theorem tw_182 : (Jvm.Cond.code ({ cls := "CharMachine$Processor", name := "cardsToRead", desc := "()I" } : Jvm.MethodName) prog_4_method_2_code (1 : Nat) (Option.some Jvm.ClassFile.FieldType.int)) ∈ BIG := List.mem_filter.mpr ⟨List.mem_of_getElem? (i := 236) rfl, rfl⟩
theorem tw_183 : (Jvm.Cond.methodLink "CharMachine$Processor" (34 : Nat) ({ cls := "CharMachine$Pile", name := "filled", desc := "()I" } : Jvm.MethodName)) ∈ BIG := List.mem_filter.mpr ⟨List.mem_of_getElem? (i := 237) (by decide +kernel), by decide +kernel⟩
theorem tw_184 : (Jvm.Cond.instanceMethod ({ cls := "CharMachine$Pile", name := "filled", desc := "()I" } : Jvm.MethodName)) ∈ BIG := List.mem_filter.mpr ⟨List.mem_of_getElem? (i := 238) (by decide +kernel), by decide +kernel⟩
theorem tw_185 : (Jvm.Cond.selects "CharMachine$Pile" ({ cls := "CharMachine$Pile", name := "filled", desc := "()I" } : Jvm.MethodName) ({ cls := "CharMachine$Pile", name := "filled", desc := "()I" } : Jvm.MethodName)) ∈ BIG := List.mem_filter.mpr ⟨List.mem_of_getElem? (i := 239) (by decide +kernel), by decide +kernel⟩
set_option maxRecDepth 100000 in
theorem tw_186 : (Jvm.Cond.code ({ cls := "CharMachine$Pile", name := "filled", desc := "()I" } : Jvm.MethodName) prog_3_method_2_code (1 : Nat) (Option.some Jvm.ClassFile.FieldType.int)) ∈ BIG := List.mem_filter.mpr ⟨List.mem_of_getElem? (i := 240) rfl, rfl⟩
theorem tw_187 : (Jvm.Cond.methodLink "CharMachine" (144 : Nat) ({ cls := "CharMachine$Pile", name := "filled", desc := "()I" } : Jvm.MethodName)) ∈ BIG := List.mem_filter.mpr ⟨List.mem_of_getElem? (i := 241) (by decide +kernel), by decide +kernel⟩
theorem tw_188 : (Jvm.Cond.methodLink "CharMachine" (147 : Nat) ({ cls := "CharMachine$Store", name := "markCount", desc := "()I" } : Jvm.MethodName)) ∈ BIG := List.mem_filter.mpr ⟨List.mem_of_getElem? (i := 242) (by decide +kernel), by decide +kernel⟩
theorem tw_189 : (Jvm.Cond.instanceMethod ({ cls := "CharMachine$Store", name := "markCount", desc := "()I" } : Jvm.MethodName)) ∈ BIG := List.mem_filter.mpr ⟨List.mem_of_getElem? (i := 243) (by decide +kernel), by decide +kernel⟩
theorem tw_190 : (Jvm.Cond.selects "CharMachine$Store" ({ cls := "CharMachine$Store", name := "markCount", desc := "()I" } : Jvm.MethodName) ({ cls := "CharMachine$Store", name := "markCount", desc := "()I" } : Jvm.MethodName)) ∈ BIG := List.mem_filter.mpr ⟨List.mem_of_getElem? (i := 244) (by decide +kernel), by decide +kernel⟩
set_option maxRecDepth 100000 in
theorem tw_191 : (Jvm.Cond.code ({ cls := "CharMachine$Store", name := "markCount", desc := "()I" } : Jvm.MethodName) prog_5_method_20_code (3 : Nat) (Option.some Jvm.ClassFile.FieldType.int)) ∈ BIG := List.mem_filter.mpr ⟨List.mem_of_getElem? (i := 245) rfl, rfl⟩
theorem tw_192 : (Jvm.Cond.methodLink "CharMachine$Store" (44 : Nat) ({ cls := "CharMachine$Store", name := "hasMark", desc := "(I)Z" } : Jvm.MethodName)) ∈ BIG := List.mem_filter.mpr ⟨List.mem_of_getElem? (i := 246) (by decide +kernel), by decide +kernel⟩
theorem tw_193 : (Jvm.Cond.instanceMethod ({ cls := "CharMachine$Store", name := "hasMark", desc := "(I)Z" } : Jvm.MethodName)) ∈ BIG := List.mem_filter.mpr ⟨List.mem_of_getElem? (i := 247) (by decide +kernel), by decide +kernel⟩
theorem tw_194 : (Jvm.Cond.selects "CharMachine$Store" ({ cls := "CharMachine$Store", name := "hasMark", desc := "(I)Z" } : Jvm.MethodName) ({ cls := "CharMachine$Store", name := "hasMark", desc := "(I)Z" } : Jvm.MethodName)) ∈ BIG := List.mem_filter.mpr ⟨List.mem_of_getElem? (i := 248) (by decide +kernel), by decide +kernel⟩
set_option maxRecDepth 100000 in
theorem tw_195 : (Jvm.Cond.code ({ cls := "CharMachine$Store", name := "hasMark", desc := "(I)Z" } : Jvm.MethodName) prog_5_method_6_code (2 : Nat) (Option.some Jvm.ClassFile.FieldType.boolean)) ∈ BIG := List.mem_filter.mpr ⟨List.mem_of_getElem? (i := 249) rfl, rfl⟩
theorem tw_196 : (Jvm.Cond.methodLink "CharMachineLaw" (47 : Nat) ({ cls := "CharMachineLaw", name := "cell", desc := "([II)I" } : Jvm.MethodName)) ∈ BIG := List.mem_filter.mpr ⟨List.mem_of_getElem? (i := 250) (by decide +kernel), by decide +kernel⟩
theorem tw_197 : (Jvm.Cond.static ({ cls := "CharMachineLaw", name := "cell", desc := "([II)I" } : Jvm.MethodName)) ∈ BIG := List.mem_filter.mpr ⟨List.mem_of_getElem? (i := 251) (by decide +kernel), by decide +kernel⟩
set_option maxRecDepth 100000 in
theorem tw_198 : (Jvm.Cond.code ({ cls := "CharMachineLaw", name := "cell", desc := "([II)I" } : Jvm.MethodName) method_2_code (2 : Nat) (Option.some Jvm.ClassFile.FieldType.int)) ∈ BIG := List.mem_filter.mpr ⟨List.mem_of_getElem? (i := 252) rfl, rfl⟩
theorem tw_199 : (Jvm.Cond.methodLink "CharMachineLaw" (66 : Nat) ({ cls := "CharMachineLaw", name := "put", desc := "(LCharMachine;IJI[J)I" } : Jvm.MethodName)) ∈ BIG := List.mem_filter.mpr ⟨List.mem_of_getElem? (i := 253) (by decide +kernel), by decide +kernel⟩
theorem tw_200 : (Jvm.Cond.static ({ cls := "CharMachineLaw", name := "put", desc := "(LCharMachine;IJI[J)I" } : Jvm.MethodName)) ∈ BIG := List.mem_filter.mpr ⟨List.mem_of_getElem? (i := 254) (by decide +kernel), by decide +kernel⟩
theorem tw_202 : (Jvm.Cond.classLink "CharMachineLaw" (13 : Nat) "java/lang/IllegalArgumentException") ∈ BIG := List.mem_filter.mpr ⟨List.mem_of_getElem? (i := 256) (by decide +kernel), by decide +kernel⟩
theorem tw_203 : (Jvm.Cond.methodLink "CharMachineLaw" (7 : Nat) ({ cls := "CharMachine", name := "put", desc := "(IJI)I" } : Jvm.MethodName)) ∈ BIG := List.mem_filter.mpr ⟨List.mem_of_getElem? (i := 257) (by decide +kernel), by decide +kernel⟩
theorem tw_204 : (Jvm.Cond.instanceMethod ({ cls := "CharMachine", name := "put", desc := "(IJI)I" } : Jvm.MethodName)) ∈ BIG := List.mem_filter.mpr ⟨List.mem_of_getElem? (i := 258) (by decide +kernel), by decide +kernel⟩
theorem tw_205 : (Jvm.Cond.selects "CharMachine" ({ cls := "CharMachine", name := "put", desc := "(IJI)I" } : Jvm.MethodName) ({ cls := "CharMachine", name := "put", desc := "(IJI)I" } : Jvm.MethodName)) ∈ BIG := List.mem_filter.mpr ⟨List.mem_of_getElem? (i := 259) (by decide +kernel), by decide +kernel⟩
set_option maxRecDepth 100000 in
theorem tw_206 : (Jvm.Cond.code ({ cls := "CharMachine", name := "put", desc := "(IJI)I" } : Jvm.MethodName) prog_1_method_3_code (7 : Nat) (Option.some Jvm.ClassFile.FieldType.int)) ∈ BIG := List.mem_filter.mpr ⟨List.mem_of_getElem? (i := 260) rfl, rfl⟩
theorem tw_207 : (Jvm.Cond.methodLink "CharMachine" (53 : Nat) ({ cls := "CharMachine", name := "charactersIn", desc := "(J)I" } : Jvm.MethodName)) ∈ BIG := List.mem_filter.mpr ⟨List.mem_of_getElem? (i := 261) (by decide +kernel), by decide +kernel⟩
theorem tw_208 : (Jvm.Cond.static ({ cls := "CharMachine", name := "charactersIn", desc := "(J)I" } : Jvm.MethodName)) ∈ BIG := List.mem_filter.mpr ⟨List.mem_of_getElem? (i := 262) (by decide +kernel), by decide +kernel⟩
set_option maxRecDepth 100000 in
theorem tw_209 : (Jvm.Cond.code ({ cls := "CharMachine", name := "charactersIn", desc := "(J)I" } : Jvm.MethodName) prog_1_method_17_code (3 : Nat) (Option.some Jvm.ClassFile.FieldType.int)) ∈ BIG := List.mem_filter.mpr ⟨List.mem_of_getElem? (i := 263) rfl, rfl⟩
theorem tw_210 : (Jvm.Cond.methodLink "CharMachine" (64 : Nat) ({ cls := "CharMachine", name := "byteOf", desc := "(JI)I" } : Jvm.MethodName)) ∈ BIG := List.mem_filter.mpr ⟨List.mem_of_getElem? (i := 264) (by decide +kernel), by decide +kernel⟩
theorem tw_211 : (Jvm.Cond.static ({ cls := "CharMachine", name := "byteOf", desc := "(JI)I" } : Jvm.MethodName)) ∈ BIG := List.mem_filter.mpr ⟨List.mem_of_getElem? (i := 265) (by decide +kernel), by decide +kernel⟩
set_option maxRecDepth 100000 in
theorem tw_212 : (Jvm.Cond.code ({ cls := "CharMachine", name := "byteOf", desc := "(JI)I" } : Jvm.MethodName) prog_1_method_16_code (3 : Nat) (Option.some Jvm.ClassFile.FieldType.int)) ∈ BIG := List.mem_filter.mpr ⟨List.mem_of_getElem? (i := 266) rfl, rfl⟩
theorem tw_213 : (Jvm.Cond.constantLong "CharMachine" (150 : Nat) (255 : Int64)) ∈ BIG := List.mem_filter.mpr ⟨List.mem_of_getElem? (i := 267) (by decide +kernel), by decide +kernel⟩
theorem tw_214 : (Jvm.Cond.classLink "CharMachine" (61 : Nat) "java/lang/IllegalArgumentException") ∈ BIG := List.mem_filter.mpr ⟨List.mem_of_getElem? (i := 268) (by decide +kernel), by decide +kernel⟩
theorem tw_215 : (Jvm.Cond.instantiable "java/lang/IllegalArgumentException" (6 : Nat)) ∈ BIG := List.mem_filter.mpr ⟨List.mem_of_getElem? (i := 269) (by decide +kernel), by decide +kernel⟩
theorem tw_223 : (Jvm.Cond.selects "java/lang/IllegalArgumentException" ({ cls := "java/lang/Throwable", name := "fillInStackTrace", desc := "(I)Ljava/lang/Throwable;" } : Jvm.MethodName) ({ cls := "java/lang/Throwable", name := "fillInStackTrace", desc := "(I)Ljava/lang/Throwable;" } : Jvm.MethodName)) ∈ BIG := List.mem_filter.mpr ⟨List.mem_of_getElem? (i := 277) (by decide +kernel), by decide +kernel⟩
theorem tw_224 : (Jvm.Cond.selects "java/lang/IllegalArgumentException" ({ cls := "java/lang/Throwable", name := "fillInStackTrace", desc := "()Ljava/lang/Throwable;" } : Jvm.MethodName) ({ cls := "java/lang/Throwable", name := "fillInStackTrace", desc := "()Ljava/lang/Throwable;" } : Jvm.MethodName)) ∈ BIG := List.mem_filter.mpr ⟨List.mem_of_getElem? (i := 278) (by decide +kernel), by decide +kernel⟩
theorem tw_225 : (Jvm.Cond.lays "java/lang/IllegalArgumentException" "java/lang/Throwable" "cause" "Ljava/lang/Throwable;") ∈ BIG := List.mem_filter.mpr ⟨List.mem_of_getElem? (i := 279) (by decide +kernel), by decide +kernel⟩
theorem tw_226 : (Jvm.Cond.lays "java/lang/Throwable" "java/lang/Throwable" "cause" "Ljava/lang/Throwable;") ∈ BIG := List.mem_filter.mpr ⟨List.mem_of_getElem? (i := 280) (by decide +kernel), by decide +kernel⟩
theorem tw_227 : (Jvm.Cond.lays "java/lang/IllegalArgumentException" "java/lang/Throwable" "stackTrace" "[Ljava/lang/StackTraceElement;") ∈ BIG := List.mem_filter.mpr ⟨List.mem_of_getElem? (i := 281) (by decide +kernel), by decide +kernel⟩
theorem tw_228 : (Jvm.Cond.lays "java/lang/Throwable" "java/lang/Throwable" "stackTrace" "[Ljava/lang/StackTraceElement;") ∈ BIG := List.mem_filter.mpr ⟨List.mem_of_getElem? (i := 282) (by decide +kernel), by decide +kernel⟩
theorem tw_229 : (Jvm.Cond.lays "java/lang/IllegalArgumentException" "java/lang/Throwable" "suppressedExceptions" "Ljava/util/List;") ∈ BIG := List.mem_filter.mpr ⟨List.mem_of_getElem? (i := 283) (by decide +kernel), by decide +kernel⟩
theorem tw_230 : (Jvm.Cond.lays "java/lang/Throwable" "java/lang/Throwable" "suppressedExceptions" "Ljava/util/List;") ∈ BIG := List.mem_filter.mpr ⟨List.mem_of_getElem? (i := 284) (by decide +kernel), by decide +kernel⟩
theorem tw_231 : (Jvm.Cond.lays "java/lang/IllegalArgumentException" "java/lang/Throwable" "detailMessage" "Ljava/lang/String;") ∈ BIG := List.mem_filter.mpr ⟨List.mem_of_getElem? (i := 285) (by decide +kernel), by decide +kernel⟩
theorem tw_232 : (Jvm.Cond.lays "java/lang/Throwable" "java/lang/Throwable" "detailMessage" "Ljava/lang/String;") ∈ BIG := List.mem_filter.mpr ⟨List.mem_of_getElem? (i := 286) (by decide +kernel), by decide +kernel⟩
theorem tw_233 : (Jvm.Cond.lays "java/lang/IllegalArgumentException" "java/lang/Throwable" "backtrace" "Ljava/lang/Object;") ∈ BIG := List.mem_filter.mpr ⟨List.mem_of_getElem? (i := 287) (by decide +kernel), by decide +kernel⟩
theorem tw_234 : (Jvm.Cond.lays "java/lang/Throwable" "java/lang/Throwable" "backtrace" "Ljava/lang/Object;") ∈ BIG := List.mem_filter.mpr ⟨List.mem_of_getElem? (i := 288) (by decide +kernel), by decide +kernel⟩
theorem tw_235 : (Jvm.Cond.fieldLink "java/lang/Throwable" (198 : Nat) "java/lang/Throwable" "backtrace" "Ljava/lang/Object;") ∈ BIG := List.mem_filter.mpr ⟨List.mem_of_getElem? (i := 289) (by decide +kernel), by decide +kernel⟩
theorem tw_237 : (Jvm.Cond.instanceMethod ({ cls := "java/lang/Throwable", name := "<init>", desc := "()V" } : Jvm.MethodName)) ∈ BIG := List.mem_filter.mpr ⟨List.mem_of_getElem? (i := 291) (by decide +kernel), by decide +kernel⟩
set_option maxRecDepth 100000 in
theorem tw_238 : (Jvm.Cond.code ({ cls := "java/lang/Throwable", name := "<init>", desc := "()V" } : Jvm.MethodName) prog_16_method_1_code (1 : Nat) (Option.none : Option Jvm.ClassFile.FieldType)) ∈ BIG := List.mem_filter.mpr ⟨List.mem_of_getElem? (i := 292) rfl, rfl⟩
theorem tw_239 : (Jvm.Cond.methodLink "java/lang/Throwable" (1 : Nat) ({ cls := "java/lang/Object", name := "<init>", desc := "()V" } : Jvm.MethodName)) ∈ BIG := List.mem_filter.mpr ⟨List.mem_of_getElem? (i := 293) (by decide +kernel), by decide +kernel⟩
theorem tw_240 : (Jvm.Cond.fieldLink "java/lang/Throwable" (13 : Nat) "java/lang/Throwable" "UNASSIGNED_STACK" "[Ljava/lang/StackTraceElement;") ∈ BIG := List.mem_filter.mpr ⟨List.mem_of_getElem? (i := 294) (by decide +kernel), by decide +kernel⟩
theorem tw_242 : (Jvm.Cond.fieldLink "java/lang/Throwable" (20 : Nat) "java/lang/Throwable" "SUPPRESSED_SENTINEL" "Ljava/util/List;") ∈ BIG := List.mem_filter.mpr ⟨List.mem_of_getElem? (i := 296) (by decide +kernel), by decide +kernel⟩
theorem tw_244 : (Jvm.Cond.methodLink "java/lang/Throwable" (27 : Nat) ({ cls := "java/lang/Throwable", name := "fillInStackTrace", desc := "()Ljava/lang/Throwable;" } : Jvm.MethodName)) ∈ BIG := List.mem_filter.mpr ⟨List.mem_of_getElem? (i := 298) (by decide +kernel), by decide +kernel⟩
theorem tw_245 : (Jvm.Cond.instanceMethod ({ cls := "java/lang/Throwable", name := "fillInStackTrace", desc := "()Ljava/lang/Throwable;" } : Jvm.MethodName)) ∈ BIG := List.mem_filter.mpr ⟨List.mem_of_getElem? (i := 299) (by decide +kernel), by decide +kernel⟩
theorem tw_247 : (Jvm.Cond.selects "java/lang/IllegalStateException" ({ cls := "java/lang/Throwable", name := "fillInStackTrace", desc := "()Ljava/lang/Throwable;" } : Jvm.MethodName) ({ cls := "java/lang/Throwable", name := "fillInStackTrace", desc := "()Ljava/lang/Throwable;" } : Jvm.MethodName)) ∈ BIG := List.mem_filter.mpr ⟨List.mem_of_getElem? (i := 301) (by decide +kernel), by decide +kernel⟩
theorem tw_248 : (Jvm.Cond.selects "java/lang/IndexOutOfBoundsException" ({ cls := "java/lang/Throwable", name := "fillInStackTrace", desc := "()Ljava/lang/Throwable;" } : Jvm.MethodName) ({ cls := "java/lang/Throwable", name := "fillInStackTrace", desc := "()Ljava/lang/Throwable;" } : Jvm.MethodName)) ∈ BIG := List.mem_filter.mpr ⟨List.mem_of_getElem? (i := 302) (by decide +kernel), by decide +kernel⟩
theorem tw_249 : (Jvm.Cond.selects "java/lang/UnsupportedOperationException" ({ cls := "java/lang/Throwable", name := "fillInStackTrace", desc := "()Ljava/lang/Throwable;" } : Jvm.MethodName) ({ cls := "java/lang/Throwable", name := "fillInStackTrace", desc := "()Ljava/lang/Throwable;" } : Jvm.MethodName)) ∈ BIG := List.mem_filter.mpr ⟨List.mem_of_getElem? (i := 303) (by decide +kernel), by decide +kernel⟩
theorem tw_251 : (Jvm.Cond.methodLink "java/lang/Throwable" (202 : Nat) ({ cls := "java/lang/Throwable", name := "fillInStackTrace", desc := "(I)Ljava/lang/Throwable;" } : Jvm.MethodName)) ∈ BIG := List.mem_filter.mpr ⟨List.mem_of_getElem? (i := 305) (by decide +kernel), by decide +kernel⟩
theorem tw_253 : (Jvm.Cond.instanceMethod ({ cls := "java/lang/Throwable", name := "fillInStackTrace", desc := "(I)Ljava/lang/Throwable;" } : Jvm.MethodName)) ∈ BIG := List.mem_filter.mpr ⟨List.mem_of_getElem? (i := 307) (by decide +kernel), by decide +kernel⟩
theorem tw_254 : (Jvm.Cond.instantiable "java/lang/Throwable" (6 : Nat)) ∈ BIG := List.mem_filter.mpr ⟨List.mem_of_getElem? (i := 308) (by decide +kernel), by decide +kernel⟩
theorem tw_256 : (Jvm.Cond.methodLink "CharMachine" (63 : Nat) ({ cls := "java/lang/IllegalArgumentException", name := "<init>", desc := "()V" } : Jvm.MethodName)) ∈ BIG := List.mem_filter.mpr ⟨List.mem_of_getElem? (i := 310) (by decide +kernel), by decide +kernel⟩
theorem tw_257 : (Jvm.Cond.instanceMethod ({ cls := "java/lang/IllegalArgumentException", name := "<init>", desc := "()V" } : Jvm.MethodName)) ∈ BIG := List.mem_filter.mpr ⟨List.mem_of_getElem? (i := 311) (by decide +kernel), by decide +kernel⟩
set_option maxRecDepth 100000 in
theorem tw_258 : (Jvm.Cond.code ({ cls := "java/lang/IllegalArgumentException", name := "<init>", desc := "()V" } : Jvm.MethodName) prog_9_method_1_code (1 : Nat) (Option.none : Option Jvm.ClassFile.FieldType)) ∈ BIG := List.mem_filter.mpr ⟨List.mem_of_getElem? (i := 312) rfl, rfl⟩
theorem tw_259 : (Jvm.Cond.methodLink "java/lang/IllegalArgumentException" (1 : Nat) ({ cls := "java/lang/RuntimeException", name := "<init>", desc := "()V" } : Jvm.MethodName)) ∈ BIG := List.mem_filter.mpr ⟨List.mem_of_getElem? (i := 313) (by decide +kernel), by decide +kernel⟩
theorem tw_260 : (Jvm.Cond.instanceMethod ({ cls := "java/lang/RuntimeException", name := "<init>", desc := "()V" } : Jvm.MethodName)) ∈ BIG := List.mem_filter.mpr ⟨List.mem_of_getElem? (i := 314) (by decide +kernel), by decide +kernel⟩
set_option maxRecDepth 100000 in
theorem tw_261 : (Jvm.Cond.code ({ cls := "java/lang/RuntimeException", name := "<init>", desc := "()V" } : Jvm.MethodName) prog_14_method_1_code (1 : Nat) (Option.none : Option Jvm.ClassFile.FieldType)) ∈ BIG := List.mem_filter.mpr ⟨List.mem_of_getElem? (i := 315) rfl, rfl⟩
theorem tw_262 : (Jvm.Cond.methodLink "java/lang/RuntimeException" (1 : Nat) ({ cls := "java/lang/Exception", name := "<init>", desc := "()V" } : Jvm.MethodName)) ∈ BIG := List.mem_filter.mpr ⟨List.mem_of_getElem? (i := 316) (by decide +kernel), by decide +kernel⟩
theorem tw_263 : (Jvm.Cond.instanceMethod ({ cls := "java/lang/Exception", name := "<init>", desc := "()V" } : Jvm.MethodName)) ∈ BIG := List.mem_filter.mpr ⟨List.mem_of_getElem? (i := 317) (by decide +kernel), by decide +kernel⟩
set_option maxRecDepth 100000 in
theorem tw_264 : (Jvm.Cond.code ({ cls := "java/lang/Exception", name := "<init>", desc := "()V" } : Jvm.MethodName) prog_8_method_1_code (1 : Nat) (Option.none : Option Jvm.ClassFile.FieldType)) ∈ BIG := List.mem_filter.mpr ⟨List.mem_of_getElem? (i := 318) rfl, rfl⟩
theorem tw_265 : (Jvm.Cond.methodLink "java/lang/Exception" (1 : Nat) ({ cls := "java/lang/Throwable", name := "<init>", desc := "()V" } : Jvm.MethodName)) ∈ BIG := List.mem_filter.mpr ⟨List.mem_of_getElem? (i := 319) (by decide +kernel), by decide +kernel⟩
theorem tw_266 : (Jvm.Cond.fieldLink "java/lang/Throwable" (198 : Nat) "java/lang/Throwable" "backtrace" "Ljava/lang/Object;") ∈ BIG := List.mem_filter.mpr ⟨List.mem_of_getElem? (i := 320) (by decide +kernel), by decide +kernel⟩
theorem tw_267 : (Jvm.Cond.fieldLink "java/lang/Throwable" (7 : Nat) "java/lang/Throwable" "cause" "Ljava/lang/Throwable;") ∈ BIG := List.mem_filter.mpr ⟨List.mem_of_getElem? (i := 321) (by decide +kernel), by decide +kernel⟩
theorem tw_268 : (Jvm.Cond.fieldLink "java/lang/Throwable" (17 : Nat) "java/lang/Throwable" "stackTrace" "[Ljava/lang/StackTraceElement;") ∈ BIG := List.mem_filter.mpr ⟨List.mem_of_getElem? (i := 322) (by decide +kernel), by decide +kernel⟩
theorem tw_269 : (Jvm.Cond.fieldLink "java/lang/Throwable" (24 : Nat) "java/lang/Throwable" "suppressedExceptions" "Ljava/util/List;") ∈ BIG := List.mem_filter.mpr ⟨List.mem_of_getElem? (i := 323) (by decide +kernel), by decide +kernel⟩
theorem tw_274 : (Jvm.Cond.lays "java/lang/IllegalArgumentException" "java/lang/Throwable" "depth" "I") ∈ BIG := List.mem_filter.mpr ⟨List.mem_of_getElem? (i := 328) (by decide +kernel), by decide +kernel⟩
theorem tw_278 : (Jvm.Cond.methodLink "CharMachineLaw" (78 : Nat) ({ cls := "CharMachineLaw", name := "card", desc := "(LCharMachine;[J)I" } : Jvm.MethodName)) ∈ BIG := List.mem_filter.mpr ⟨List.mem_of_getElem? (i := 332) (by decide +kernel), by decide +kernel⟩
theorem tw_279 : (Jvm.Cond.static ({ cls := "CharMachineLaw", name := "card", desc := "(LCharMachine;[J)I" } : Jvm.MethodName)) ∈ BIG := List.mem_filter.mpr ⟨List.mem_of_getElem? (i := 333) (by decide +kernel), by decide +kernel⟩
theorem tw_281 : (Jvm.Cond.classLink "CharMachineLaw" (19 : Nat) "java/lang/IllegalStateException") ∈ BIG := List.mem_filter.mpr ⟨List.mem_of_getElem? (i := 335) (by decide +kernel), by decide +kernel⟩
theorem tw_282 : (Jvm.Cond.methodLink "CharMachineLaw" (15 : Nat) ({ cls := "CharMachine", name := "card", desc := "()I" } : Jvm.MethodName)) ∈ BIG := List.mem_filter.mpr ⟨List.mem_of_getElem? (i := 336) (by decide +kernel), by decide +kernel⟩
theorem tw_283 : (Jvm.Cond.instanceMethod ({ cls := "CharMachine", name := "card", desc := "()I" } : Jvm.MethodName)) ∈ BIG := List.mem_filter.mpr ⟨List.mem_of_getElem? (i := 337) (by decide +kernel), by decide +kernel⟩
theorem tw_284 : (Jvm.Cond.selects "CharMachine" ({ cls := "CharMachine", name := "card", desc := "()I" } : Jvm.MethodName) ({ cls := "CharMachine", name := "card", desc := "()I" } : Jvm.MethodName)) ∈ BIG := List.mem_filter.mpr ⟨List.mem_of_getElem? (i := 338) (by decide +kernel), by decide +kernel⟩
set_option maxRecDepth 100000 in
theorem tw_285 : (Jvm.Cond.code ({ cls := "CharMachine", name := "card", desc := "()I" } : Jvm.MethodName) prog_1_method_5_code (1 : Nat) (Option.some Jvm.ClassFile.FieldType.int)) ∈ BIG := List.mem_filter.mpr ⟨List.mem_of_getElem? (i := 339) rfl, rfl⟩
theorem tw_286 : (Jvm.Cond.methodLink "CharMachine" (71 : Nat) ({ cls := "CharMachine$Pile", name := "isFull", desc := "()Z" } : Jvm.MethodName)) ∈ BIG := List.mem_filter.mpr ⟨List.mem_of_getElem? (i := 340) (by decide +kernel), by decide +kernel⟩
theorem tw_287 : (Jvm.Cond.instanceMethod ({ cls := "CharMachine$Pile", name := "isFull", desc := "()Z" } : Jvm.MethodName)) ∈ BIG := List.mem_filter.mpr ⟨List.mem_of_getElem? (i := 341) (by decide +kernel), by decide +kernel⟩
theorem tw_288 : (Jvm.Cond.selects "CharMachine$Pile" ({ cls := "CharMachine$Pile", name := "isFull", desc := "()Z" } : Jvm.MethodName) ({ cls := "CharMachine$Pile", name := "isFull", desc := "()Z" } : Jvm.MethodName)) ∈ BIG := List.mem_filter.mpr ⟨List.mem_of_getElem? (i := 342) (by decide +kernel), by decide +kernel⟩
set_option maxRecDepth 100000 in
theorem tw_289 : (Jvm.Cond.code ({ cls := "CharMachine$Pile", name := "isFull", desc := "()Z" } : Jvm.MethodName) prog_3_method_3_code (1 : Nat) (Option.some Jvm.ClassFile.FieldType.boolean)) ∈ BIG := List.mem_filter.mpr ⟨List.mem_of_getElem? (i := 343) rfl, rfl⟩
theorem tw_290 : (Jvm.Cond.classLink "CharMachine" (75 : Nat) "java/lang/IllegalStateException") ∈ BIG := List.mem_filter.mpr ⟨List.mem_of_getElem? (i := 344) (by decide +kernel), by decide +kernel⟩
theorem tw_291 : (Jvm.Cond.instantiable "java/lang/IllegalStateException" (6 : Nat)) ∈ BIG := List.mem_filter.mpr ⟨List.mem_of_getElem? (i := 345) (by decide +kernel), by decide +kernel⟩
theorem tw_293 : (Jvm.Cond.selects "java/lang/IllegalStateException" ({ cls := "java/lang/Throwable", name := "fillInStackTrace", desc := "(I)Ljava/lang/Throwable;" } : Jvm.MethodName) ({ cls := "java/lang/Throwable", name := "fillInStackTrace", desc := "(I)Ljava/lang/Throwable;" } : Jvm.MethodName)) ∈ BIG := List.mem_filter.mpr ⟨List.mem_of_getElem? (i := 347) (by decide +kernel), by decide +kernel⟩
theorem tw_294 : (Jvm.Cond.lays "java/lang/IllegalStateException" "java/lang/Throwable" "cause" "Ljava/lang/Throwable;") ∈ BIG := List.mem_filter.mpr ⟨List.mem_of_getElem? (i := 348) (by decide +kernel), by decide +kernel⟩
theorem tw_295 : (Jvm.Cond.lays "java/lang/IllegalStateException" "java/lang/Throwable" "stackTrace" "[Ljava/lang/StackTraceElement;") ∈ BIG := List.mem_filter.mpr ⟨List.mem_of_getElem? (i := 349) (by decide +kernel), by decide +kernel⟩
theorem tw_296 : (Jvm.Cond.lays "java/lang/IllegalStateException" "java/lang/Throwable" "suppressedExceptions" "Ljava/util/List;") ∈ BIG := List.mem_filter.mpr ⟨List.mem_of_getElem? (i := 350) (by decide +kernel), by decide +kernel⟩
theorem tw_297 : (Jvm.Cond.lays "java/lang/IllegalStateException" "java/lang/Throwable" "detailMessage" "Ljava/lang/String;") ∈ BIG := List.mem_filter.mpr ⟨List.mem_of_getElem? (i := 351) (by decide +kernel), by decide +kernel⟩
theorem tw_298 : (Jvm.Cond.lays "java/lang/IllegalStateException" "java/lang/Throwable" "backtrace" "Ljava/lang/Object;") ∈ BIG := List.mem_filter.mpr ⟨List.mem_of_getElem? (i := 352) (by decide +kernel), by decide +kernel⟩
theorem tw_299 : (Jvm.Cond.methodLink "CharMachine" (77 : Nat) ({ cls := "java/lang/IllegalStateException", name := "<init>", desc := "()V" } : Jvm.MethodName)) ∈ BIG := List.mem_filter.mpr ⟨List.mem_of_getElem? (i := 353) (by decide +kernel), by decide +kernel⟩
theorem tw_300 : (Jvm.Cond.instanceMethod ({ cls := "java/lang/IllegalStateException", name := "<init>", desc := "()V" } : Jvm.MethodName)) ∈ BIG := List.mem_filter.mpr ⟨List.mem_of_getElem? (i := 354) (by decide +kernel), by decide +kernel⟩
set_option maxRecDepth 100000 in
theorem tw_301 : (Jvm.Cond.code ({ cls := "java/lang/IllegalStateException", name := "<init>", desc := "()V" } : Jvm.MethodName) prog_10_method_1_code (1 : Nat) (Option.none : Option Jvm.ClassFile.FieldType)) ∈ BIG := List.mem_filter.mpr ⟨List.mem_of_getElem? (i := 355) rfl, rfl⟩
theorem tw_302 : (Jvm.Cond.methodLink "java/lang/IllegalStateException" (1 : Nat) ({ cls := "java/lang/RuntimeException", name := "<init>", desc := "()V" } : Jvm.MethodName)) ∈ BIG := List.mem_filter.mpr ⟨List.mem_of_getElem? (i := 356) (by decide +kernel), by decide +kernel⟩
theorem tw_303 : (Jvm.Cond.lays "java/lang/IllegalStateException" "java/lang/Throwable" "depth" "I") ∈ BIG := List.mem_filter.mpr ⟨List.mem_of_getElem? (i := 357) (by decide +kernel), by decide +kernel⟩
theorem tw_305 : (Jvm.Cond.methodLink "CharMachine" (78 : Nat) ({ cls := "CharMachine$Pile", name := "close", desc := "()V" } : Jvm.MethodName)) ∈ BIG := List.mem_filter.mpr ⟨List.mem_of_getElem? (i := 359) (by decide +kernel), by decide +kernel⟩
theorem tw_306 : (Jvm.Cond.instanceMethod ({ cls := "CharMachine$Pile", name := "close", desc := "()V" } : Jvm.MethodName)) ∈ BIG := List.mem_filter.mpr ⟨List.mem_of_getElem? (i := 360) (by decide +kernel), by decide +kernel⟩
theorem tw_307 : (Jvm.Cond.selects "CharMachine$Pile" ({ cls := "CharMachine$Pile", name := "close", desc := "()V" } : Jvm.MethodName) ({ cls := "CharMachine$Pile", name := "close", desc := "()V" } : Jvm.MethodName)) ∈ BIG := List.mem_filter.mpr ⟨List.mem_of_getElem? (i := 361) (by decide +kernel), by decide +kernel⟩
set_option maxRecDepth 100000 in
theorem tw_308 : (Jvm.Cond.code ({ cls := "CharMachine$Pile", name := "close", desc := "()V" } : Jvm.MethodName) prog_3_method_7_code (1 : Nat) (Option.none : Option Jvm.ClassFile.FieldType)) ∈ BIG := List.mem_filter.mpr ⟨List.mem_of_getElem? (i := 362) rfl, rfl⟩
theorem tw_309 : (Jvm.Cond.methodLink "CharMachineLaw" (86 : Nat) ({ cls := "CharMachineLaw", name := "run", desc := "(LCharMachine;I[J)I" } : Jvm.MethodName)) ∈ BIG := List.mem_filter.mpr ⟨List.mem_of_getElem? (i := 363) (by decide +kernel), by decide +kernel⟩
theorem tw_310 : (Jvm.Cond.static ({ cls := "CharMachineLaw", name := "run", desc := "(LCharMachine;I[J)I" } : Jvm.MethodName)) ∈ BIG := List.mem_filter.mpr ⟨List.mem_of_getElem? (i := 364) (by decide +kernel), by decide +kernel⟩
theorem tw_312 : (Jvm.Cond.methodLink "CharMachineLaw" (21 : Nat) ({ cls := "CharMachine", name := "run", desc := "(I)I" } : Jvm.MethodName)) ∈ BIG := List.mem_filter.mpr ⟨List.mem_of_getElem? (i := 366) (by decide +kernel), by decide +kernel⟩
theorem tw_313 : (Jvm.Cond.instanceMethod ({ cls := "CharMachine", name := "run", desc := "(I)I" } : Jvm.MethodName)) ∈ BIG := List.mem_filter.mpr ⟨List.mem_of_getElem? (i := 367) (by decide +kernel), by decide +kernel⟩
theorem tw_314 : (Jvm.Cond.selects "CharMachine" ({ cls := "CharMachine", name := "run", desc := "(I)I" } : Jvm.MethodName) ({ cls := "CharMachine", name := "run", desc := "(I)I" } : Jvm.MethodName)) ∈ BIG := List.mem_filter.mpr ⟨List.mem_of_getElem? (i := 368) (by decide +kernel), by decide +kernel⟩
set_option maxRecDepth 100000 in
theorem tw_315 : (Jvm.Cond.code ({ cls := "CharMachine", name := "run", desc := "(I)I" } : Jvm.MethodName) prog_1_method_7_code (4 : Nat) (Option.some Jvm.ClassFile.FieldType.int)) ∈ BIG := List.mem_filter.mpr ⟨List.mem_of_getElem? (i := 369) rfl, rfl⟩
theorem tw_316 : (Jvm.Cond.methodLink "CharMachine" (88 : Nat) ({ cls := "CharMachine$Processor", name := "step", desc := "()I" } : Jvm.MethodName)) ∈ BIG := List.mem_filter.mpr ⟨List.mem_of_getElem? (i := 370) (by decide +kernel), by decide +kernel⟩
theorem tw_317 : (Jvm.Cond.instanceMethod ({ cls := "CharMachine$Processor", name := "step", desc := "()I" } : Jvm.MethodName)) ∈ BIG := List.mem_filter.mpr ⟨List.mem_of_getElem? (i := 371) (by decide +kernel), by decide +kernel⟩
theorem tw_318 : (Jvm.Cond.selects "CharMachine$Processor" ({ cls := "CharMachine$Processor", name := "step", desc := "()I" } : Jvm.MethodName) ({ cls := "CharMachine$Processor", name := "step", desc := "()I" } : Jvm.MethodName)) ∈ BIG := List.mem_filter.mpr ⟨List.mem_of_getElem? (i := 372) (by decide +kernel), by decide +kernel⟩
set_option maxRecDepth 100000 in
theorem tw_319 : (Jvm.Cond.code ({ cls := "CharMachine$Processor", name := "step", desc := "()I" } : Jvm.MethodName) prog_4_method_3_code (4 : Nat) (Option.some Jvm.ClassFile.FieldType.int)) ∈ BIG := List.mem_filter.mpr ⟨List.mem_of_getElem? (i := 373) rfl, rfl⟩
theorem tw_320 : (Jvm.Cond.methodLink "CharMachine$Processor" (47 : Nat) ({ cls := "CharMachine$Store", name := "has", desc := "(I)Z" } : Jvm.MethodName)) ∈ BIG := List.mem_filter.mpr ⟨List.mem_of_getElem? (i := 374) (by decide +kernel), by decide +kernel⟩
theorem tw_321 : (Jvm.Cond.methodLink "CharMachine$Processor" (53 : Nat) ({ cls := "CharMachine$Store", name := "hasMark", desc := "(I)Z" } : Jvm.MethodName)) ∈ BIG := List.mem_filter.mpr ⟨List.mem_of_getElem? (i := 375) (by decide +kernel), by decide +kernel⟩
theorem tw_322 : (Jvm.Cond.methodLink "CharMachine$Processor" (56 : Nat) ({ cls := "CharMachine$Store", name := "character", desc := "(I)I" } : Jvm.MethodName)) ∈ BIG := List.mem_filter.mpr ⟨List.mem_of_getElem? (i := 376) (by decide +kernel), by decide +kernel⟩
theorem tw_323 : (Jvm.Cond.instanceMethod ({ cls := "CharMachine$Store", name := "character", desc := "(I)I" } : Jvm.MethodName)) ∈ BIG := List.mem_filter.mpr ⟨List.mem_of_getElem? (i := 377) (by decide +kernel), by decide +kernel⟩
theorem tw_324 : (Jvm.Cond.selects "CharMachine$Store" ({ cls := "CharMachine$Store", name := "character", desc := "(I)I" } : Jvm.MethodName) ({ cls := "CharMachine$Store", name := "character", desc := "(I)I" } : Jvm.MethodName)) ∈ BIG := List.mem_filter.mpr ⟨List.mem_of_getElem? (i := 378) (by decide +kernel), by decide +kernel⟩
set_option maxRecDepth 100000 in
theorem tw_325 : (Jvm.Cond.code ({ cls := "CharMachine$Store", name := "character", desc := "(I)I" } : Jvm.MethodName) prog_5_method_5_code (2 : Nat) (Option.some Jvm.ClassFile.FieldType.int)) ∈ BIG := List.mem_filter.mpr ⟨List.mem_of_getElem? (i := 379) rfl, rfl⟩
theorem tw_326 : (Jvm.Cond.methodLink "CharMachine$Processor" (60 : Nat) ({ cls := "CharMachine$Processor", name := "instructionLength", desc := "()I" } : Jvm.MethodName)) ∈ BIG := List.mem_filter.mpr ⟨List.mem_of_getElem? (i := 380) (by decide +kernel), by decide +kernel⟩
theorem tw_328 : (Jvm.Cond.instanceMethod ({ cls := "CharMachine$Processor", name := "instructionLength", desc := "()I" } : Jvm.MethodName)) ∈ BIG := List.mem_filter.mpr ⟨List.mem_of_getElem? (i := 382) (by decide +kernel), by decide +kernel⟩
set_option maxRecDepth 100000 in
theorem tw_329 : (Jvm.Cond.code ({ cls := "CharMachine$Processor", name := "instructionLength", desc := "()I" } : Jvm.MethodName) prog_4_method_4_code (2 : Nat) (Option.some Jvm.ClassFile.FieldType.int)) ∈ BIG := List.mem_filter.mpr ⟨List.mem_of_getElem? (i := 383) rfl, rfl⟩
theorem tw_330 : (Jvm.Cond.methodLink "CharMachine$Processor" (63 : Nat) ({ cls := "CharMachine$Processor", name := "allows", desc := "(II)Z" } : Jvm.MethodName)) ∈ BIG := List.mem_filter.mpr ⟨List.mem_of_getElem? (i := 384) (by decide +kernel), by decide +kernel⟩
theorem tw_331 : (Jvm.Cond.static ({ cls := "CharMachine$Processor", name := "allows", desc := "(II)Z" } : Jvm.MethodName)) ∈ BIG := List.mem_filter.mpr ⟨List.mem_of_getElem? (i := 385) (by decide +kernel), by decide +kernel⟩
set_option maxRecDepth 100000 in
theorem tw_332 : (Jvm.Cond.code ({ cls := "CharMachine$Processor", name := "allows", desc := "(II)Z" } : Jvm.MethodName) prog_4_method_5_code (2 : Nat) (Option.some Jvm.ClassFile.FieldType.boolean)) ∈ BIG := List.mem_filter.mpr ⟨List.mem_of_getElem? (i := 386) rfl, rfl⟩
theorem tw_333 : (Jvm.Cond.methodLink "CharMachine$Processor" (70 : Nat) ({ cls := "CharMachine$Processor", name := "takeAddresses", desc := "(II)V" } : Jvm.MethodName)) ∈ BIG := List.mem_filter.mpr ⟨List.mem_of_getElem? (i := 387) (by decide +kernel), by decide +kernel⟩
theorem tw_335 : (Jvm.Cond.instanceMethod ({ cls := "CharMachine$Processor", name := "takeAddresses", desc := "(II)V" } : Jvm.MethodName)) ∈ BIG := List.mem_filter.mpr ⟨List.mem_of_getElem? (i := 389) (by decide +kernel), by decide +kernel⟩
set_option maxRecDepth 100000 in
theorem tw_336 : (Jvm.Cond.code ({ cls := "CharMachine$Processor", name := "takeAddresses", desc := "(II)V" } : Jvm.MethodName) prog_4_method_6_code (3 : Nat) (Option.none : Option Jvm.ClassFile.FieldType)) ∈ BIG := List.mem_filter.mpr ⟨List.mem_of_getElem? (i := 390) rfl, rfl⟩
theorem tw_337 : (Jvm.Cond.methodLink "CharMachine$Processor" (78 : Nat) ({ cls := "CharMachine$Store", name := "address", desc := "(I)I" } : Jvm.MethodName)) ∈ BIG := List.mem_filter.mpr ⟨List.mem_of_getElem? (i := 391) (by decide +kernel), by decide +kernel⟩
theorem tw_338 : (Jvm.Cond.instanceMethod ({ cls := "CharMachine$Store", name := "address", desc := "(I)I" } : Jvm.MethodName)) ∈ BIG := List.mem_filter.mpr ⟨List.mem_of_getElem? (i := 392) (by decide +kernel), by decide +kernel⟩
theorem tw_339 : (Jvm.Cond.selects "CharMachine$Store" ({ cls := "CharMachine$Store", name := "address", desc := "(I)I" } : Jvm.MethodName) ({ cls := "CharMachine$Store", name := "address", desc := "(I)I" } : Jvm.MethodName)) ∈ BIG := List.mem_filter.mpr ⟨List.mem_of_getElem? (i := 393) (by decide +kernel), by decide +kernel⟩
set_option maxRecDepth 100000 in
theorem tw_340 : (Jvm.Cond.code ({ cls := "CharMachine$Store", name := "address", desc := "(I)I" } : Jvm.MethodName) prog_5_method_18_code (3 : Nat) (Option.some Jvm.ClassFile.FieldType.int)) ∈ BIG := List.mem_filter.mpr ⟨List.mem_of_getElem? (i := 394) rfl, rfl⟩
theorem tw_341 : (Jvm.Cond.methodLink "CharMachine$Store" (19 : Nat) ({ cls := "CharMachine$Store", name := "zone", desc := "(I)I" } : Jvm.MethodName)) ∈ BIG := List.mem_filter.mpr ⟨List.mem_of_getElem? (i := 395) (by decide +kernel), by decide +kernel⟩
theorem tw_342 : (Jvm.Cond.instanceMethod ({ cls := "CharMachine$Store", name := "zone", desc := "(I)I" } : Jvm.MethodName)) ∈ BIG := List.mem_filter.mpr ⟨List.mem_of_getElem? (i := 396) (by decide +kernel), by decide +kernel⟩
theorem tw_343 : (Jvm.Cond.selects "CharMachine$Store" ({ cls := "CharMachine$Store", name := "zone", desc := "(I)I" } : Jvm.MethodName) ({ cls := "CharMachine$Store", name := "zone", desc := "(I)I" } : Jvm.MethodName)) ∈ BIG := List.mem_filter.mpr ⟨List.mem_of_getElem? (i := 397) (by decide +kernel), by decide +kernel⟩
set_option maxRecDepth 100000 in
theorem tw_344 : (Jvm.Cond.code ({ cls := "CharMachine$Store", name := "zone", desc := "(I)I" } : Jvm.MethodName) prog_5_method_7_code (2 : Nat) (Option.some Jvm.ClassFile.FieldType.int)) ∈ BIG := List.mem_filter.mpr ⟨List.mem_of_getElem? (i := 398) rfl, rfl⟩
theorem tw_345 : (Jvm.Cond.methodLink "CharMachine$Store" (52 : Nat) ({ cls := "CharMachine$Store", name := "digit", desc := "(I)I" } : Jvm.MethodName)) ∈ BIG := List.mem_filter.mpr ⟨List.mem_of_getElem? (i := 399) (by decide +kernel), by decide +kernel⟩
theorem tw_346 : (Jvm.Cond.instanceMethod ({ cls := "CharMachine$Store", name := "digit", desc := "(I)I" } : Jvm.MethodName)) ∈ BIG := List.mem_filter.mpr ⟨List.mem_of_getElem? (i := 400) (by decide +kernel), by decide +kernel⟩
theorem tw_347 : (Jvm.Cond.selects "CharMachine$Store" ({ cls := "CharMachine$Store", name := "digit", desc := "(I)I" } : Jvm.MethodName) ({ cls := "CharMachine$Store", name := "digit", desc := "(I)I" } : Jvm.MethodName)) ∈ BIG := List.mem_filter.mpr ⟨List.mem_of_getElem? (i := 401) (by decide +kernel), by decide +kernel⟩
set_option maxRecDepth 100000 in
theorem tw_348 : (Jvm.Cond.code ({ cls := "CharMachine$Store", name := "digit", desc := "(I)I" } : Jvm.MethodName) prog_5_method_8_code (2 : Nat) (Option.some Jvm.ClassFile.FieldType.int)) ∈ BIG := List.mem_filter.mpr ⟨List.mem_of_getElem? (i := 402) rfl, rfl⟩
theorem tw_349 : (Jvm.Cond.methodLink "CharMachine$Processor" (84 : Nat) ({ cls := "CharMachine$Processor", name := "keepsB", desc := "(I)Z" } : Jvm.MethodName)) ∈ BIG := List.mem_filter.mpr ⟨List.mem_of_getElem? (i := 403) (by decide +kernel), by decide +kernel⟩
theorem tw_350 : (Jvm.Cond.static ({ cls := "CharMachine$Processor", name := "keepsB", desc := "(I)Z" } : Jvm.MethodName)) ∈ BIG := List.mem_filter.mpr ⟨List.mem_of_getElem? (i := 404) (by decide +kernel), by decide +kernel⟩
set_option maxRecDepth 100000 in
theorem tw_351 : (Jvm.Cond.code ({ cls := "CharMachine$Processor", name := "keepsB", desc := "(I)Z" } : Jvm.MethodName) prog_4_method_7_code (1 : Nat) (Option.some Jvm.ClassFile.FieldType.boolean)) ∈ BIG := List.mem_filter.mpr ⟨List.mem_of_getElem? (i := 405) rfl, rfl⟩
theorem tw_352 : (Jvm.Cond.methodLink "CharMachine$Processor" (74 : Nat) ({ cls := "CharMachine$Processor", name := "perform", desc := "(III)I" } : Jvm.MethodName)) ∈ BIG := List.mem_filter.mpr ⟨List.mem_of_getElem? (i := 406) (by decide +kernel), by decide +kernel⟩
theorem tw_354 : (Jvm.Cond.instanceMethod ({ cls := "CharMachine$Processor", name := "perform", desc := "(III)I" } : Jvm.MethodName)) ∈ BIG := List.mem_filter.mpr ⟨List.mem_of_getElem? (i := 408) (by decide +kernel), by decide +kernel⟩
set_option maxRecDepth 100000 in
theorem tw_355 : (Jvm.Cond.code ({ cls := "CharMachine$Processor", name := "perform", desc := "(III)I" } : Jvm.MethodName) prog_4_method_8_code (4 : Nat) (Option.some Jvm.ClassFile.FieldType.int)) ∈ BIG := List.mem_filter.mpr ⟨List.mem_of_getElem? (i := 409) rfl, rfl⟩
theorem tw_356 : (Jvm.Cond.methodLink "CharMachine$Processor" (87 : Nat) ({ cls := "CharMachine$Processor", name := "calculate", desc := "(ZZ)I" } : Jvm.MethodName)) ∈ BIG := List.mem_filter.mpr ⟨List.mem_of_getElem? (i := 410) (by decide +kernel), by decide +kernel⟩
theorem tw_358 : (Jvm.Cond.instanceMethod ({ cls := "CharMachine$Processor", name := "calculate", desc := "(ZZ)I" } : Jvm.MethodName)) ∈ BIG := List.mem_filter.mpr ⟨List.mem_of_getElem? (i := 412) (by decide +kernel), by decide +kernel⟩
set_option maxRecDepth 100000 in
theorem tw_359 : (Jvm.Cond.code ({ cls := "CharMachine$Processor", name := "calculate", desc := "(ZZ)I" } : Jvm.MethodName) prog_4_method_11_code (6 : Nat) (Option.some Jvm.ClassFile.FieldType.int)) ∈ BIG := List.mem_filter.mpr ⟨List.mem_of_getElem? (i := 413) rfl, rfl⟩
theorem tw_360 : (Jvm.Cond.methodLink "CharMachine$Processor" (132 : Nat) ({ cls := "CharMachine$Store", name := "fieldLength", desc := "(I)I" } : Jvm.MethodName)) ∈ BIG := List.mem_filter.mpr ⟨List.mem_of_getElem? (i := 414) (by decide +kernel), by decide +kernel⟩
theorem tw_361 : (Jvm.Cond.instanceMethod ({ cls := "CharMachine$Store", name := "fieldLength", desc := "(I)I" } : Jvm.MethodName)) ∈ BIG := List.mem_filter.mpr ⟨List.mem_of_getElem? (i := 415) (by decide +kernel), by decide +kernel⟩
theorem tw_362 : (Jvm.Cond.selects "CharMachine$Store" ({ cls := "CharMachine$Store", name := "fieldLength", desc := "(I)I" } : Jvm.MethodName) ({ cls := "CharMachine$Store", name := "fieldLength", desc := "(I)I" } : Jvm.MethodName)) ∈ BIG := List.mem_filter.mpr ⟨List.mem_of_getElem? (i := 416) (by decide +kernel), by decide +kernel⟩
set_option maxRecDepth 100000 in
theorem tw_363 : (Jvm.Cond.code ({ cls := "CharMachine$Store", name := "fieldLength", desc := "(I)I" } : Jvm.MethodName) prog_5_method_15_code (2 : Nat) (Option.some Jvm.ClassFile.FieldType.int)) ∈ BIG := List.mem_filter.mpr ⟨List.mem_of_getElem? (i := 417) rfl, rfl⟩
theorem tw_364 : (Jvm.Cond.methodLink "CharMachine$Store" (40 : Nat) ({ cls := "CharMachine$Store", name := "fieldLength", desc := "(II)I" } : Jvm.MethodName)) ∈ BIG := List.mem_filter.mpr ⟨List.mem_of_getElem? (i := 418) (by decide +kernel), by decide +kernel⟩
theorem tw_365 : (Jvm.Cond.instanceMethod ({ cls := "CharMachine$Store", name := "fieldLength", desc := "(II)I" } : Jvm.MethodName)) ∈ BIG := List.mem_filter.mpr ⟨List.mem_of_getElem? (i := 419) (by decide +kernel), by decide +kernel⟩
theorem tw_366 : (Jvm.Cond.selects "CharMachine$Store" ({ cls := "CharMachine$Store", name := "fieldLength", desc := "(II)I" } : Jvm.MethodName) ({ cls := "CharMachine$Store", name := "fieldLength", desc := "(II)I" } : Jvm.MethodName)) ∈ BIG := List.mem_filter.mpr ⟨List.mem_of_getElem? (i := 420) (by decide +kernel), by decide +kernel⟩
set_option maxRecDepth 100000 in
theorem tw_367 : (Jvm.Cond.code ({ cls := "CharMachine$Store", name := "fieldLength", desc := "(II)I" } : Jvm.MethodName) prog_5_method_16_code (4 : Nat) (Option.some Jvm.ClassFile.FieldType.int)) ∈ BIG := List.mem_filter.mpr ⟨List.mem_of_getElem? (i := 421) rfl, rfl⟩
theorem tw_368 : (Jvm.Cond.methodLink "CharMachine$Store" (15 : Nat) ({ cls := "CharMachine$Store", name := "has", desc := "(I)Z" } : Jvm.MethodName)) ∈ BIG := List.mem_filter.mpr ⟨List.mem_of_getElem? (i := 422) (by decide +kernel), by decide +kernel⟩
theorem tw_369 : (Jvm.Cond.methodLink "CharMachine$Processor" (135 : Nat) ({ cls := "CharMachine$Store", name := "fieldLength", desc := "(II)I" } : Jvm.MethodName)) ∈ BIG := List.mem_filter.mpr ⟨List.mem_of_getElem? (i := 423) (by decide +kernel), by decide +kernel⟩
theorem tw_370 : (Jvm.Cond.methodLink "CharMachine$Processor" (138 : Nat) ({ cls := "CharMachine$Store", name := "isMinus", desc := "(I)Z" } : Jvm.MethodName)) ∈ BIG := List.mem_filter.mpr ⟨List.mem_of_getElem? (i := 424) (by decide +kernel), by decide +kernel⟩
theorem tw_371 : (Jvm.Cond.instanceMethod ({ cls := "CharMachine$Store", name := "isMinus", desc := "(I)Z" } : Jvm.MethodName)) ∈ BIG := List.mem_filter.mpr ⟨List.mem_of_getElem? (i := 425) (by decide +kernel), by decide +kernel⟩
theorem tw_372 : (Jvm.Cond.selects "CharMachine$Store" ({ cls := "CharMachine$Store", name := "isMinus", desc := "(I)Z" } : Jvm.MethodName) ({ cls := "CharMachine$Store", name := "isMinus", desc := "(I)Z" } : Jvm.MethodName)) ∈ BIG := List.mem_filter.mpr ⟨List.mem_of_getElem? (i := 426) (by decide +kernel), by decide +kernel⟩
set_option maxRecDepth 100000 in
theorem tw_373 : (Jvm.Cond.code ({ cls := "CharMachine$Store", name := "isMinus", desc := "(I)Z" } : Jvm.MethodName) prog_5_method_9_code (2 : Nat) (Option.some Jvm.ClassFile.FieldType.boolean)) ∈ BIG := List.mem_filter.mpr ⟨List.mem_of_getElem? (i := 427) rfl, rfl⟩
theorem tw_374 : (Jvm.Cond.methodLink "CharMachine$Processor" (141 : Nat) ({ cls := "CharMachine$Arithmetic", name := "readDigits", desc := "(III)V" } : Jvm.MethodName)) ∈ BIG := List.mem_filter.mpr ⟨List.mem_of_getElem? (i := 428) (by decide +kernel), by decide +kernel⟩
theorem tw_375 : (Jvm.Cond.instanceMethod ({ cls := "CharMachine$Arithmetic", name := "readDigits", desc := "(III)V" } : Jvm.MethodName)) ∈ BIG := List.mem_filter.mpr ⟨List.mem_of_getElem? (i := 429) (by decide +kernel), by decide +kernel⟩
theorem tw_376 : (Jvm.Cond.selects "CharMachine$Arithmetic" ({ cls := "CharMachine$Arithmetic", name := "readDigits", desc := "(III)V" } : Jvm.MethodName) ({ cls := "CharMachine$Arithmetic", name := "readDigits", desc := "(III)V" } : Jvm.MethodName)) ∈ BIG := List.mem_filter.mpr ⟨List.mem_of_getElem? (i := 430) (by decide +kernel), by decide +kernel⟩
set_option maxRecDepth 100000 in
theorem tw_377 : (Jvm.Cond.code ({ cls := "CharMachine$Arithmetic", name := "readDigits", desc := "(III)V" } : Jvm.MethodName) prog_2_method_2_code (5 : Nat) (Option.none : Option Jvm.ClassFile.FieldType)) ∈ BIG := List.mem_filter.mpr ⟨List.mem_of_getElem? (i := 431) rfl, rfl⟩
theorem tw_378 : (Jvm.Cond.methodLink "CharMachine$Arithmetic" (23 : Nat) ({ cls := "CharMachine$Store", name := "digit", desc := "(I)I" } : Jvm.MethodName)) ∈ BIG := List.mem_filter.mpr ⟨List.mem_of_getElem? (i := 432) (by decide +kernel), by decide +kernel⟩
theorem tw_379 : (Jvm.Cond.methodLink "CharMachine$Processor" (145 : Nat) ({ cls := "CharMachine$Arithmetic", name := "replace", desc := "(II)V" } : Jvm.MethodName)) ∈ BIG := List.mem_filter.mpr ⟨List.mem_of_getElem? (i := 433) (by decide +kernel), by decide +kernel⟩
theorem tw_380 : (Jvm.Cond.instanceMethod ({ cls := "CharMachine$Arithmetic", name := "replace", desc := "(II)V" } : Jvm.MethodName)) ∈ BIG := List.mem_filter.mpr ⟨List.mem_of_getElem? (i := 434) (by decide +kernel), by decide +kernel⟩
theorem tw_381 : (Jvm.Cond.selects "CharMachine$Arithmetic" ({ cls := "CharMachine$Arithmetic", name := "replace", desc := "(II)V" } : Jvm.MethodName) ({ cls := "CharMachine$Arithmetic", name := "replace", desc := "(II)V" } : Jvm.MethodName)) ∈ BIG := List.mem_filter.mpr ⟨List.mem_of_getElem? (i := 435) (by decide +kernel), by decide +kernel⟩
set_option maxRecDepth 100000 in
theorem tw_382 : (Jvm.Cond.code ({ cls := "CharMachine$Arithmetic", name := "replace", desc := "(II)V" } : Jvm.MethodName) prog_2_method_3_code (4 : Nat) (Option.none : Option Jvm.ClassFile.FieldType)) ∈ BIG := List.mem_filter.mpr ⟨List.mem_of_getElem? (i := 436) rfl, rfl⟩
theorem tw_384 : (Jvm.Cond.static ({ cls := "CharMachine", name := "written", desc := "(I)I" } : Jvm.MethodName)) ∈ BIG := List.mem_filter.mpr ⟨List.mem_of_getElem? (i := 438) (by decide +kernel), by decide +kernel⟩
set_option maxRecDepth 100000 in
theorem tw_385 : (Jvm.Cond.code ({ cls := "CharMachine", name := "written", desc := "(I)I" } : Jvm.MethodName) prog_1_method_18_code (1 : Nat) (Option.some Jvm.ClassFile.FieldType.int)) ∈ BIG := List.mem_filter.mpr ⟨List.mem_of_getElem? (i := 439) rfl, rfl⟩
theorem tw_386 : (Jvm.Cond.methodLink "CharMachine$Arithmetic" (32 : Nat) ({ cls := "CharMachine$Store", name := "write", desc := "(II)V" } : Jvm.MethodName)) ∈ BIG := List.mem_filter.mpr ⟨List.mem_of_getElem? (i := 440) (by decide +kernel), by decide +kernel⟩
theorem tw_387 : (Jvm.Cond.instanceMethod ({ cls := "CharMachine$Store", name := "write", desc := "(II)V" } : Jvm.MethodName)) ∈ BIG := List.mem_filter.mpr ⟨List.mem_of_getElem? (i := 441) (by decide +kernel), by decide +kernel⟩
theorem tw_388 : (Jvm.Cond.selects "CharMachine$Store" ({ cls := "CharMachine$Store", name := "write", desc := "(II)V" } : Jvm.MethodName) ({ cls := "CharMachine$Store", name := "write", desc := "(II)V" } : Jvm.MethodName)) ∈ BIG := List.mem_filter.mpr ⟨List.mem_of_getElem? (i := 442) (by decide +kernel), by decide +kernel⟩
set_option maxRecDepth 100000 in
theorem tw_389 : (Jvm.Cond.code ({ cls := "CharMachine$Store", name := "write", desc := "(II)V" } : Jvm.MethodName) prog_5_method_11_code (3 : Nat) (Option.none : Option Jvm.ClassFile.FieldType)) ∈ BIG := List.mem_filter.mpr ⟨List.mem_of_getElem? (i := 443) rfl, rfl⟩
theorem tw_391 : (Jvm.Cond.static ({ cls := "CharMachine", name := "signZone", desc := "(Z)I" } : Jvm.MethodName)) ∈ BIG := List.mem_filter.mpr ⟨List.mem_of_getElem? (i := 445) (by decide +kernel), by decide +kernel⟩
set_option maxRecDepth 100000 in
theorem tw_392 : (Jvm.Cond.code ({ cls := "CharMachine", name := "signZone", desc := "(Z)I" } : Jvm.MethodName) prog_1_method_19_code (1 : Nat) (Option.some Jvm.ClassFile.FieldType.int)) ∈ BIG := List.mem_filter.mpr ⟨List.mem_of_getElem? (i := 446) rfl, rfl⟩
theorem tw_393 : (Jvm.Cond.methodLink "CharMachine$Processor" (151 : Nat) ({ cls := "CharMachine$Store", name := "writeZone", desc := "(II)V" } : Jvm.MethodName)) ∈ BIG := List.mem_filter.mpr ⟨List.mem_of_getElem? (i := 447) (by decide +kernel), by decide +kernel⟩
theorem tw_394 : (Jvm.Cond.instanceMethod ({ cls := "CharMachine$Store", name := "writeZone", desc := "(II)V" } : Jvm.MethodName)) ∈ BIG := List.mem_filter.mpr ⟨List.mem_of_getElem? (i := 448) (by decide +kernel), by decide +kernel⟩
theorem tw_395 : (Jvm.Cond.selects "CharMachine$Store" ({ cls := "CharMachine$Store", name := "writeZone", desc := "(II)V" } : Jvm.MethodName) ({ cls := "CharMachine$Store", name := "writeZone", desc := "(II)V" } : Jvm.MethodName)) ∈ BIG := List.mem_filter.mpr ⟨List.mem_of_getElem? (i := 449) (by decide +kernel), by decide +kernel⟩
set_option maxRecDepth 100000 in
theorem tw_396 : (Jvm.Cond.code ({ cls := "CharMachine$Store", name := "writeZone", desc := "(II)V" } : Jvm.MethodName) prog_5_method_12_code (3 : Nat) (Option.none : Option Jvm.ClassFile.FieldType)) ∈ BIG := List.mem_filter.mpr ⟨List.mem_of_getElem? (i := 450) rfl, rfl⟩
theorem tw_397 : (Jvm.Cond.methodLink "CharMachine$Store" (23 : Nat) ({ cls := "CharMachine$Store", name := "character", desc := "(I)I" } : Jvm.MethodName)) ∈ BIG := List.mem_filter.mpr ⟨List.mem_of_getElem? (i := 451) (by decide +kernel), by decide +kernel⟩
theorem tw_398 : (Jvm.Cond.methodLink "CharMachine$Store" (26 : Nat) ({ cls := "CharMachine$Store", name := "write", desc := "(II)V" } : Jvm.MethodName)) ∈ BIG := List.mem_filter.mpr ⟨List.mem_of_getElem? (i := 452) (by decide +kernel), by decide +kernel⟩
theorem tw_399 : (Jvm.Cond.methodLink "CharMachine$Processor" (154 : Nat) ({ cls := "CharMachine$Processor", name := "addSigned", desc := "(IZ)V" } : Jvm.MethodName)) ∈ BIG := List.mem_filter.mpr ⟨List.mem_of_getElem? (i := 453) (by decide +kernel), by decide +kernel⟩
theorem tw_401 : (Jvm.Cond.instanceMethod ({ cls := "CharMachine$Processor", name := "addSigned", desc := "(IZ)V" } : Jvm.MethodName)) ∈ BIG := List.mem_filter.mpr ⟨List.mem_of_getElem? (i := 455) (by decide +kernel), by decide +kernel⟩
set_option maxRecDepth 100000 in
theorem tw_402 : (Jvm.Cond.code ({ cls := "CharMachine$Processor", name := "addSigned", desc := "(IZ)V" } : Jvm.MethodName) prog_4_method_12_code (5 : Nat) (Option.none : Option Jvm.ClassFile.FieldType)) ∈ BIG := List.mem_filter.mpr ⟨List.mem_of_getElem? (i := 456) rfl, rfl⟩
theorem tw_403 : (Jvm.Cond.methodLink "CharMachine$Processor" (158 : Nat) ({ cls := "CharMachine$Arithmetic", name := "add", desc := "(II)Z" } : Jvm.MethodName)) ∈ BIG := List.mem_filter.mpr ⟨List.mem_of_getElem? (i := 457) (by decide +kernel), by decide +kernel⟩
theorem tw_404 : (Jvm.Cond.instanceMethod ({ cls := "CharMachine$Arithmetic", name := "add", desc := "(II)Z" } : Jvm.MethodName)) ∈ BIG := List.mem_filter.mpr ⟨List.mem_of_getElem? (i := 458) (by decide +kernel), by decide +kernel⟩
theorem tw_405 : (Jvm.Cond.selects "CharMachine$Arithmetic" ({ cls := "CharMachine$Arithmetic", name := "add", desc := "(II)Z" } : Jvm.MethodName) ({ cls := "CharMachine$Arithmetic", name := "add", desc := "(II)Z" } : Jvm.MethodName)) ∈ BIG := List.mem_filter.mpr ⟨List.mem_of_getElem? (i := 459) (by decide +kernel), by decide +kernel⟩
set_option maxRecDepth 100000 in
theorem tw_406 : (Jvm.Cond.code ({ cls := "CharMachine$Arithmetic", name := "add", desc := "(II)Z" } : Jvm.MethodName) prog_2_method_4_code (7 : Nat) (Option.some Jvm.ClassFile.FieldType.boolean)) ∈ BIG := List.mem_filter.mpr ⟨List.mem_of_getElem? (i := 460) rfl, rfl⟩
theorem tw_407 : (Jvm.Cond.methodLink "CharMachine$Arithmetic" (36 : Nat) ({ cls := "CharMachine$Store", name := "zone", desc := "(I)I" } : Jvm.MethodName)) ∈ BIG := List.mem_filter.mpr ⟨List.mem_of_getElem? (i := 461) (by decide +kernel), by decide +kernel⟩
theorem tw_408 : (Jvm.Cond.methodLink "CharMachine$Processor" (165 : Nat) ({ cls := "CharMachine$Arithmetic", name := "isGreater", desc := "(II)Z" } : Jvm.MethodName)) ∈ BIG := List.mem_filter.mpr ⟨List.mem_of_getElem? (i := 462) (by decide +kernel), by decide +kernel⟩
theorem tw_409 : (Jvm.Cond.instanceMethod ({ cls := "CharMachine$Arithmetic", name := "isGreater", desc := "(II)Z" } : Jvm.MethodName)) ∈ BIG := List.mem_filter.mpr ⟨List.mem_of_getElem? (i := 463) (by decide +kernel), by decide +kernel⟩
theorem tw_410 : (Jvm.Cond.selects "CharMachine$Arithmetic" ({ cls := "CharMachine$Arithmetic", name := "isGreater", desc := "(II)Z" } : Jvm.MethodName) ({ cls := "CharMachine$Arithmetic", name := "isGreater", desc := "(II)Z" } : Jvm.MethodName)) ∈ BIG := List.mem_filter.mpr ⟨List.mem_of_getElem? (i := 464) (by decide +kernel), by decide +kernel⟩
set_option maxRecDepth 100000 in
theorem tw_411 : (Jvm.Cond.code ({ cls := "CharMachine$Arithmetic", name := "isGreater", desc := "(II)Z" } : Jvm.MethodName) prog_2_method_6_code (5 : Nat) (Option.some Jvm.ClassFile.FieldType.boolean)) ∈ BIG := List.mem_filter.mpr ⟨List.mem_of_getElem? (i := 465) rfl, rfl⟩
theorem tw_412 : (Jvm.Cond.methodLink "CharMachine$Processor" (168 : Nat) ({ cls := "CharMachine$Arithmetic", name := "subtract", desc := "(IIZ)V" } : Jvm.MethodName)) ∈ BIG := List.mem_filter.mpr ⟨List.mem_of_getElem? (i := 466) (by decide +kernel), by decide +kernel⟩
theorem tw_413 : (Jvm.Cond.instanceMethod ({ cls := "CharMachine$Arithmetic", name := "subtract", desc := "(IIZ)V" } : Jvm.MethodName)) ∈ BIG := List.mem_filter.mpr ⟨List.mem_of_getElem? (i := 467) (by decide +kernel), by decide +kernel⟩
theorem tw_414 : (Jvm.Cond.selects "CharMachine$Arithmetic" ({ cls := "CharMachine$Arithmetic", name := "subtract", desc := "(IIZ)V" } : Jvm.MethodName) ({ cls := "CharMachine$Arithmetic", name := "subtract", desc := "(IIZ)V" } : Jvm.MethodName)) ∈ BIG := List.mem_filter.mpr ⟨List.mem_of_getElem? (i := 468) (by decide +kernel), by decide +kernel⟩
set_option maxRecDepth 100000 in
theorem tw_415 : (Jvm.Cond.code ({ cls := "CharMachine$Arithmetic", name := "subtract", desc := "(IIZ)V" } : Jvm.MethodName) prog_2_method_5_code (8 : Nat) (Option.none : Option Jvm.ClassFile.FieldType)) ∈ BIG := List.mem_filter.mpr ⟨List.mem_of_getElem? (i := 469) rfl, rfl⟩
theorem tw_416 : (Jvm.Cond.methodLink "CharMachine$Processor" (91 : Nat) ({ cls := "CharMachine$Processor", name := "move", desc := "()I" } : Jvm.MethodName)) ∈ BIG := List.mem_filter.mpr ⟨List.mem_of_getElem? (i := 470) (by decide +kernel), by decide +kernel⟩
theorem tw_418 : (Jvm.Cond.instanceMethod ({ cls := "CharMachine$Processor", name := "move", desc := "()I" } : Jvm.MethodName)) ∈ BIG := List.mem_filter.mpr ⟨List.mem_of_getElem? (i := 472) (by decide +kernel), by decide +kernel⟩
set_option maxRecDepth 100000 in
theorem tw_419 : (Jvm.Cond.code ({ cls := "CharMachine$Processor", name := "move", desc := "()I" } : Jvm.MethodName) prog_4_method_13_code (3 : Nat) (Option.some Jvm.ClassFile.FieldType.int)) ∈ BIG := List.mem_filter.mpr ⟨List.mem_of_getElem? (i := 473) rfl, rfl⟩
theorem tw_420 : (Jvm.Cond.methodLink "CharMachine$Processor" (172 : Nat) ({ cls := "CharMachine$Store", name := "commonLength", desc := "(II)I" } : Jvm.MethodName)) ∈ BIG := List.mem_filter.mpr ⟨List.mem_of_getElem? (i := 474) (by decide +kernel), by decide +kernel⟩
theorem tw_421 : (Jvm.Cond.instanceMethod ({ cls := "CharMachine$Store", name := "commonLength", desc := "(II)I" } : Jvm.MethodName)) ∈ BIG := List.mem_filter.mpr ⟨List.mem_of_getElem? (i := 475) (by decide +kernel), by decide +kernel⟩
theorem tw_422 : (Jvm.Cond.selects "CharMachine$Store" ({ cls := "CharMachine$Store", name := "commonLength", desc := "(II)I" } : Jvm.MethodName) ({ cls := "CharMachine$Store", name := "commonLength", desc := "(II)I" } : Jvm.MethodName)) ∈ BIG := List.mem_filter.mpr ⟨List.mem_of_getElem? (i := 476) (by decide +kernel), by decide +kernel⟩
set_option maxRecDepth 100000 in
theorem tw_423 : (Jvm.Cond.code ({ cls := "CharMachine$Store", name := "commonLength", desc := "(II)I" } : Jvm.MethodName) prog_5_method_17_code (5 : Nat) (Option.some Jvm.ClassFile.FieldType.int)) ∈ BIG := List.mem_filter.mpr ⟨List.mem_of_getElem? (i := 477) rfl, rfl⟩
theorem tw_424 : (Jvm.Cond.methodLink "CharMachine$Store" (47 : Nat) ({ cls := "java/lang/Math", name := "min", desc := "(II)I" } : Jvm.MethodName)) ∈ BIG := List.mem_filter.mpr ⟨List.mem_of_getElem? (i := 478) (by decide +kernel), by decide +kernel⟩
theorem tw_425 : (Jvm.Cond.static ({ cls := "java/lang/Math", name := "min", desc := "(II)I" } : Jvm.MethodName)) ∈ BIG := List.mem_filter.mpr ⟨List.mem_of_getElem? (i := 479) (by decide +kernel), by decide +kernel⟩
set_option maxRecDepth 100000 in
theorem tw_426 : (Jvm.Cond.code ({ cls := "java/lang/Math", name := "min", desc := "(II)I" } : Jvm.MethodName) prog_13_method_69_code (2 : Nat) (Option.some Jvm.ClassFile.FieldType.int)) ∈ BIG := List.mem_filter.mpr ⟨List.mem_of_getElem? (i := 480) rfl, rfl⟩
theorem tw_427 : (Jvm.Cond.methodLink "CharMachine$Processor" (175 : Nat) ({ cls := "CharMachine$Store", name := "write", desc := "(II)V" } : Jvm.MethodName)) ∈ BIG := List.mem_filter.mpr ⟨List.mem_of_getElem? (i := 481) (by decide +kernel), by decide +kernel⟩
theorem tw_428 : (Jvm.Cond.methodLink "CharMachine$Processor" (94 : Nat) ({ cls := "CharMachine$Processor", name := "load", desc := "()I" } : Jvm.MethodName)) ∈ BIG := List.mem_filter.mpr ⟨List.mem_of_getElem? (i := 482) (by decide +kernel), by decide +kernel⟩
theorem tw_430 : (Jvm.Cond.instanceMethod ({ cls := "CharMachine$Processor", name := "load", desc := "()I" } : Jvm.MethodName)) ∈ BIG := List.mem_filter.mpr ⟨List.mem_of_getElem? (i := 484) (by decide +kernel), by decide +kernel⟩
set_option maxRecDepth 100000 in
theorem tw_431 : (Jvm.Cond.code ({ cls := "CharMachine$Processor", name := "load", desc := "()I" } : Jvm.MethodName) prog_4_method_14_code (2 : Nat) (Option.some Jvm.ClassFile.FieldType.int)) ∈ BIG := List.mem_filter.mpr ⟨List.mem_of_getElem? (i := 485) rfl, rfl⟩
theorem tw_432 : (Jvm.Cond.methodLink "CharMachine$Processor" (178 : Nat) ({ cls := "CharMachine$Store", name := "hasSpan", desc := "(II)Z" } : Jvm.MethodName)) ∈ BIG := List.mem_filter.mpr ⟨List.mem_of_getElem? (i := 486) (by decide +kernel), by decide +kernel⟩
theorem tw_433 : (Jvm.Cond.instanceMethod ({ cls := "CharMachine$Store", name := "hasSpan", desc := "(II)Z" } : Jvm.MethodName)) ∈ BIG := List.mem_filter.mpr ⟨List.mem_of_getElem? (i := 487) (by decide +kernel), by decide +kernel⟩
theorem tw_434 : (Jvm.Cond.selects "CharMachine$Store" ({ cls := "CharMachine$Store", name := "hasSpan", desc := "(II)Z" } : Jvm.MethodName) ({ cls := "CharMachine$Store", name := "hasSpan", desc := "(II)Z" } : Jvm.MethodName)) ∈ BIG := List.mem_filter.mpr ⟨List.mem_of_getElem? (i := 488) (by decide +kernel), by decide +kernel⟩
set_option maxRecDepth 100000 in
theorem tw_435 : (Jvm.Cond.code ({ cls := "CharMachine$Store", name := "hasSpan", desc := "(II)Z" } : Jvm.MethodName) prog_5_method_4_code (3 : Nat) (Option.some Jvm.ClassFile.FieldType.boolean)) ∈ BIG := List.mem_filter.mpr ⟨List.mem_of_getElem? (i := 489) rfl, rfl⟩
theorem tw_436 : (Jvm.Cond.methodLink "CharMachine$Processor" (181 : Nat) ({ cls := "CharMachine$Store", name := "copySpan", desc := "(III)V" } : Jvm.MethodName)) ∈ BIG := List.mem_filter.mpr ⟨List.mem_of_getElem? (i := 490) (by decide +kernel), by decide +kernel⟩
theorem tw_437 : (Jvm.Cond.instanceMethod ({ cls := "CharMachine$Store", name := "copySpan", desc := "(III)V" } : Jvm.MethodName)) ∈ BIG := List.mem_filter.mpr ⟨List.mem_of_getElem? (i := 491) (by decide +kernel), by decide +kernel⟩
theorem tw_438 : (Jvm.Cond.selects "CharMachine$Store" ({ cls := "CharMachine$Store", name := "copySpan", desc := "(III)V" } : Jvm.MethodName) ({ cls := "CharMachine$Store", name := "copySpan", desc := "(III)V" } : Jvm.MethodName)) ∈ BIG := List.mem_filter.mpr ⟨List.mem_of_getElem? (i := 492) (by decide +kernel), by decide +kernel⟩
set_option maxRecDepth 100000 in
theorem tw_439 : (Jvm.Cond.code ({ cls := "CharMachine$Store", name := "copySpan", desc := "(III)V" } : Jvm.MethodName) prog_5_method_14_code (4 : Nat) (Option.none : Option Jvm.ClassFile.FieldType)) ∈ BIG := List.mem_filter.mpr ⟨List.mem_of_getElem? (i := 493) rfl, rfl⟩
theorem tw_440 : (Jvm.Cond.methodLink "CharMachine$Store" (34 : Nat) ({ cls := "java/lang/System", name := "arraycopy", desc := "(Ljava/lang/Object;ILjava/lang/Object;II)V" } : Jvm.MethodName)) ∈ BIG := List.mem_filter.mpr ⟨List.mem_of_getElem? (i := 494) (by decide +kernel), by decide +kernel⟩
theorem tw_441 : (Jvm.Cond.static ({ cls := "java/lang/System", name := "arraycopy", desc := "(Ljava/lang/Object;ILjava/lang/Object;II)V" } : Jvm.MethodName)) ∈ BIG := List.mem_filter.mpr ⟨List.mem_of_getElem? (i := 495) (by decide +kernel), by decide +kernel⟩
theorem tw_443 : (Jvm.Cond.methodLink "CharMachine$Processor" (97 : Nat) ({ cls := "CharMachine$Processor", name := "moveBits", desc := "(I)I" } : Jvm.MethodName)) ∈ BIG := List.mem_filter.mpr ⟨List.mem_of_getElem? (i := 497) (by decide +kernel), by decide +kernel⟩
theorem tw_445 : (Jvm.Cond.instanceMethod ({ cls := "CharMachine$Processor", name := "moveBits", desc := "(I)I" } : Jvm.MethodName)) ∈ BIG := List.mem_filter.mpr ⟨List.mem_of_getElem? (i := 499) (by decide +kernel), by decide +kernel⟩
set_option maxRecDepth 100000 in
theorem tw_446 : (Jvm.Cond.code ({ cls := "CharMachine$Processor", name := "moveBits", desc := "(I)I" } : Jvm.MethodName) prog_4_method_15_code (2 : Nat) (Option.some Jvm.ClassFile.FieldType.int)) ∈ BIG := List.mem_filter.mpr ⟨List.mem_of_getElem? (i := 500) rfl, rfl⟩
theorem tw_447 : (Jvm.Cond.methodLink "CharMachine$Processor" (100 : Nat) ({ cls := "CharMachine$Processor", name := "compare", desc := "()I" } : Jvm.MethodName)) ∈ BIG := List.mem_filter.mpr ⟨List.mem_of_getElem? (i := 501) (by decide +kernel), by decide +kernel⟩
theorem tw_449 : (Jvm.Cond.instanceMethod ({ cls := "CharMachine$Processor", name := "compare", desc := "()I" } : Jvm.MethodName)) ∈ BIG := List.mem_filter.mpr ⟨List.mem_of_getElem? (i := 503) (by decide +kernel), by decide +kernel⟩
set_option maxRecDepth 100000 in
theorem tw_450 : (Jvm.Cond.code ({ cls := "CharMachine$Processor", name := "compare", desc := "()I" } : Jvm.MethodName) prog_4_method_16_code (2 : Nat) (Option.some Jvm.ClassFile.FieldType.int)) ∈ BIG := List.mem_filter.mpr ⟨List.mem_of_getElem? (i := 504) rfl, rfl⟩
theorem tw_451 : (Jvm.Cond.methodLink "CharMachine$Processor" (184 : Nat) ({ cls := "CharMachine$Processor", name := "orderOf", desc := "(I)I" } : Jvm.MethodName)) ∈ BIG := List.mem_filter.mpr ⟨List.mem_of_getElem? (i := 505) (by decide +kernel), by decide +kernel⟩
theorem tw_453 : (Jvm.Cond.instanceMethod ({ cls := "CharMachine$Processor", name := "orderOf", desc := "(I)I" } : Jvm.MethodName)) ∈ BIG := List.mem_filter.mpr ⟨List.mem_of_getElem? (i := 507) (by decide +kernel), by decide +kernel⟩
set_option maxRecDepth 100000 in
theorem tw_454 : (Jvm.Cond.code ({ cls := "CharMachine$Processor", name := "orderOf", desc := "(I)I" } : Jvm.MethodName) prog_4_method_17_code (4 : Nat) (Option.some Jvm.ClassFile.FieldType.int)) ∈ BIG := List.mem_filter.mpr ⟨List.mem_of_getElem? (i := 508) rfl, rfl⟩
theorem tw_455 : (Jvm.Cond.methodLink "CharMachine$Processor" (190 : Nat) ({ cls := "CharMachine$Processor", name := "rank", desc := "(I)I" } : Jvm.MethodName)) ∈ BIG := List.mem_filter.mpr ⟨List.mem_of_getElem? (i := 509) (by decide +kernel), by decide +kernel⟩
theorem tw_456 : (Jvm.Cond.static ({ cls := "CharMachine$Processor", name := "rank", desc := "(I)I" } : Jvm.MethodName)) ∈ BIG := List.mem_filter.mpr ⟨List.mem_of_getElem? (i := 510) (by decide +kernel), by decide +kernel⟩
set_option maxRecDepth 100000 in
theorem tw_457 : (Jvm.Cond.code ({ cls := "CharMachine$Processor", name := "rank", desc := "(I)I" } : Jvm.MethodName) prog_4_method_18_code (5 : Nat) (Option.some Jvm.ClassFile.FieldType.int)) ∈ BIG := List.mem_filter.mpr ⟨List.mem_of_getElem? (i := 511) rfl, rfl⟩
theorem tw_458 : (Jvm.Cond.methodLink "CharMachine$Processor" (193 : Nat) ({ cls := "java/lang/Integer", name := "compare", desc := "(II)I" } : Jvm.MethodName)) ∈ BIG := List.mem_filter.mpr ⟨List.mem_of_getElem? (i := 512) (by decide +kernel), by decide +kernel⟩
theorem tw_459 : (Jvm.Cond.static ({ cls := "java/lang/Integer", name := "compare", desc := "(II)I" } : Jvm.MethodName)) ∈ BIG := List.mem_filter.mpr ⟨List.mem_of_getElem? (i := 513) (by decide +kernel), by decide +kernel⟩
set_option maxRecDepth 100000 in
theorem tw_460 : (Jvm.Cond.code ({ cls := "java/lang/Integer", name := "compare", desc := "(II)I" } : Jvm.MethodName) prog_12_method_40_code (2 : Nat) (Option.some Jvm.ClassFile.FieldType.int)) ∈ BIG := List.mem_filter.mpr ⟨List.mem_of_getElem? (i := 514) rfl, rfl⟩
theorem tw_461 : (Jvm.Cond.methodLink "CharMachine$Processor" (103 : Nat) ({ cls := "CharMachine$Processor", name := "changeMarks", desc := "(Z)I" } : Jvm.MethodName)) ∈ BIG := List.mem_filter.mpr ⟨List.mem_of_getElem? (i := 515) (by decide +kernel), by decide +kernel⟩
theorem tw_463 : (Jvm.Cond.instanceMethod ({ cls := "CharMachine$Processor", name := "changeMarks", desc := "(Z)I" } : Jvm.MethodName)) ∈ BIG := List.mem_filter.mpr ⟨List.mem_of_getElem? (i := 517) (by decide +kernel), by decide +kernel⟩
set_option maxRecDepth 100000 in
theorem tw_464 : (Jvm.Cond.code ({ cls := "CharMachine$Processor", name := "changeMarks", desc := "(Z)I" } : Jvm.MethodName) prog_4_method_19_code (2 : Nat) (Option.some Jvm.ClassFile.FieldType.int)) ∈ BIG := List.mem_filter.mpr ⟨List.mem_of_getElem? (i := 518) rfl, rfl⟩
theorem tw_465 : (Jvm.Cond.methodLink "CharMachine$Processor" (197 : Nat) ({ cls := "CharMachine$Store", name := "mark", desc := "(IZ)V" } : Jvm.MethodName)) ∈ BIG := List.mem_filter.mpr ⟨List.mem_of_getElem? (i := 519) (by decide +kernel), by decide +kernel⟩
theorem tw_466 : (Jvm.Cond.instanceMethod ({ cls := "CharMachine$Store", name := "mark", desc := "(IZ)V" } : Jvm.MethodName)) ∈ BIG := List.mem_filter.mpr ⟨List.mem_of_getElem? (i := 520) (by decide +kernel), by decide +kernel⟩
theorem tw_467 : (Jvm.Cond.selects "CharMachine$Store" ({ cls := "CharMachine$Store", name := "mark", desc := "(IZ)V" } : Jvm.MethodName) ({ cls := "CharMachine$Store", name := "mark", desc := "(IZ)V" } : Jvm.MethodName)) ∈ BIG := List.mem_filter.mpr ⟨List.mem_of_getElem? (i := 521) (by decide +kernel), by decide +kernel⟩
set_option maxRecDepth 100000 in
theorem tw_468 : (Jvm.Cond.code ({ cls := "CharMachine$Store", name := "mark", desc := "(IZ)V" } : Jvm.MethodName) prog_5_method_13_code (3 : Nat) (Option.none : Option Jvm.ClassFile.FieldType)) ∈ BIG := List.mem_filter.mpr ⟨List.mem_of_getElem? (i := 522) rfl, rfl⟩
theorem tw_469 : (Jvm.Cond.methodLink "CharMachine$Store" (30 : Nat) ({ cls := "CharMachine$Store", name := "place", desc := "(IIZ)V" } : Jvm.MethodName)) ∈ BIG := List.mem_filter.mpr ⟨List.mem_of_getElem? (i := 523) (by decide +kernel), by decide +kernel⟩
theorem tw_470 : (Jvm.Cond.methodLink "CharMachine$Processor" (107 : Nat) ({ cls := "CharMachine$Processor", name := "clear", desc := "(Z)I" } : Jvm.MethodName)) ∈ BIG := List.mem_filter.mpr ⟨List.mem_of_getElem? (i := 524) (by decide +kernel), by decide +kernel⟩
theorem tw_472 : (Jvm.Cond.instanceMethod ({ cls := "CharMachine$Processor", name := "clear", desc := "(Z)I" } : Jvm.MethodName)) ∈ BIG := List.mem_filter.mpr ⟨List.mem_of_getElem? (i := 526) (by decide +kernel), by decide +kernel⟩
set_option maxRecDepth 100000 in
theorem tw_473 : (Jvm.Cond.code ({ cls := "CharMachine$Processor", name := "clear", desc := "(Z)I" } : Jvm.MethodName) prog_4_method_20_code (4 : Nat) (Option.some Jvm.ClassFile.FieldType.int)) ∈ BIG := List.mem_filter.mpr ⟨List.mem_of_getElem? (i := 527) rfl, rfl⟩
theorem tw_474 : (Jvm.Cond.methodLink "CharMachine$Processor" (200 : Nat) ({ cls := "CharMachine$Store", name := "place", desc := "(IIZ)V" } : Jvm.MethodName)) ∈ BIG := List.mem_filter.mpr ⟨List.mem_of_getElem? (i := 528) (by decide +kernel), by decide +kernel⟩
theorem tw_475 : (Jvm.Cond.methodLink "CharMachine$Processor" (203 : Nat) ({ cls := "CharMachine$Processor", name := "goThere", desc := "()V" } : Jvm.MethodName)) ∈ BIG := List.mem_filter.mpr ⟨List.mem_of_getElem? (i := 529) (by decide +kernel), by decide +kernel⟩
theorem tw_477 : (Jvm.Cond.instanceMethod ({ cls := "CharMachine$Processor", name := "goThere", desc := "()V" } : Jvm.MethodName)) ∈ BIG := List.mem_filter.mpr ⟨List.mem_of_getElem? (i := 531) (by decide +kernel), by decide +kernel⟩
set_option maxRecDepth 100000 in
theorem tw_478 : (Jvm.Cond.code ({ cls := "CharMachine$Processor", name := "goThere", desc := "()V" } : Jvm.MethodName) prog_4_method_9_code (2 : Nat) (Option.none : Option Jvm.ClassFile.FieldType)) ∈ BIG := List.mem_filter.mpr ⟨List.mem_of_getElem? (i := 532) rfl, rfl⟩
theorem tw_479 : (Jvm.Cond.methodLink "CharMachine$Processor" (110 : Nat) ({ cls := "CharMachine$Processor", name := "suppressZeros", desc := "()I" } : Jvm.MethodName)) ∈ BIG := List.mem_filter.mpr ⟨List.mem_of_getElem? (i := 533) (by decide +kernel), by decide +kernel⟩
theorem tw_481 : (Jvm.Cond.instanceMethod ({ cls := "CharMachine$Processor", name := "suppressZeros", desc := "()I" } : Jvm.MethodName)) ∈ BIG := List.mem_filter.mpr ⟨List.mem_of_getElem? (i := 535) (by decide +kernel), by decide +kernel⟩
set_option maxRecDepth 100000 in
theorem tw_482 : (Jvm.Cond.code ({ cls := "CharMachine$Processor", name := "suppressZeros", desc := "()I" } : Jvm.MethodName) prog_4_method_21_code (3 : Nat) (Option.some Jvm.ClassFile.FieldType.int)) ∈ BIG := List.mem_filter.mpr ⟨List.mem_of_getElem? (i := 536) rfl, rfl⟩
theorem tw_483 : (Jvm.Cond.methodLink "CharMachine$Processor" (206 : Nat) ({ cls := "CharMachine$Processor", name := "isSuppressed", desc := "(I)Z" } : Jvm.MethodName)) ∈ BIG := List.mem_filter.mpr ⟨List.mem_of_getElem? (i := 537) (by decide +kernel), by decide +kernel⟩
theorem tw_484 : (Jvm.Cond.static ({ cls := "CharMachine$Processor", name := "isSuppressed", desc := "(I)Z" } : Jvm.MethodName)) ∈ BIG := List.mem_filter.mpr ⟨List.mem_of_getElem? (i := 538) (by decide +kernel), by decide +kernel⟩
set_option maxRecDepth 100000 in
theorem tw_485 : (Jvm.Cond.code ({ cls := "CharMachine$Processor", name := "isSuppressed", desc := "(I)Z" } : Jvm.MethodName) prog_4_method_22_code (1 : Nat) (Option.some Jvm.ClassFile.FieldType.boolean)) ∈ BIG := List.mem_filter.mpr ⟨List.mem_of_getElem? (i := 539) rfl, rfl⟩
theorem tw_486 : (Jvm.Cond.methodLink "CharMachine$Processor" (113 : Nat) ({ cls := "CharMachine$Processor", name := "branch", desc := "(I)I" } : Jvm.MethodName)) ∈ BIG := List.mem_filter.mpr ⟨List.mem_of_getElem? (i := 540) (by decide +kernel), by decide +kernel⟩
theorem tw_488 : (Jvm.Cond.instanceMethod ({ cls := "CharMachine$Processor", name := "branch", desc := "(I)I" } : Jvm.MethodName)) ∈ BIG := List.mem_filter.mpr ⟨List.mem_of_getElem? (i := 542) (by decide +kernel), by decide +kernel⟩
set_option maxRecDepth 100000 in
theorem tw_489 : (Jvm.Cond.code ({ cls := "CharMachine$Processor", name := "branch", desc := "(I)I" } : Jvm.MethodName) prog_4_method_23_code (3 : Nat) (Option.some Jvm.ClassFile.FieldType.int)) ∈ BIG := List.mem_filter.mpr ⟨List.mem_of_getElem? (i := 543) rfl, rfl⟩
theorem tw_490 : (Jvm.Cond.methodLink "CharMachine$Processor" (209 : Nat) ({ cls := "CharMachine$Processor", name := "modifier", desc := "()I" } : Jvm.MethodName)) ∈ BIG := List.mem_filter.mpr ⟨List.mem_of_getElem? (i := 544) (by decide +kernel), by decide +kernel⟩
theorem tw_492 : (Jvm.Cond.instanceMethod ({ cls := "CharMachine$Processor", name := "modifier", desc := "()I" } : Jvm.MethodName)) ∈ BIG := List.mem_filter.mpr ⟨List.mem_of_getElem? (i := 546) (by decide +kernel), by decide +kernel⟩
set_option maxRecDepth 100000 in
theorem tw_493 : (Jvm.Cond.code ({ cls := "CharMachine$Processor", name := "modifier", desc := "()I" } : Jvm.MethodName) prog_4_method_10_code (1 : Nat) (Option.some Jvm.ClassFile.FieldType.int)) ∈ BIG := List.mem_filter.mpr ⟨List.mem_of_getElem? (i := 547) rfl, rfl⟩
theorem tw_494 : (Jvm.Cond.methodLink "CharMachine$Processor" (212 : Nat) ({ cls := "CharMachine$Processor", name := "isIndicated", desc := "(I)Z" } : Jvm.MethodName)) ∈ BIG := List.mem_filter.mpr ⟨List.mem_of_getElem? (i := 548) (by decide +kernel), by decide +kernel⟩
theorem tw_496 : (Jvm.Cond.instanceMethod ({ cls := "CharMachine$Processor", name := "isIndicated", desc := "(I)Z" } : Jvm.MethodName)) ∈ BIG := List.mem_filter.mpr ⟨List.mem_of_getElem? (i := 550) (by decide +kernel), by decide +kernel⟩
set_option maxRecDepth 100000 in
theorem tw_497 : (Jvm.Cond.code ({ cls := "CharMachine$Processor", name := "isIndicated", desc := "(I)Z" } : Jvm.MethodName) prog_4_method_24_code (2 : Nat) (Option.some Jvm.ClassFile.FieldType.boolean)) ∈ BIG := List.mem_filter.mpr ⟨List.mem_of_getElem? (i := 551) rfl, rfl⟩
theorem tw_498 : (Jvm.Cond.methodLink "CharMachine$Processor" (215 : Nat) ({ cls := "CharMachine$Processor", name := "takeOverflow", desc := "()Z" } : Jvm.MethodName)) ∈ BIG := List.mem_filter.mpr ⟨List.mem_of_getElem? (i := 552) (by decide +kernel), by decide +kernel⟩
theorem tw_500 : (Jvm.Cond.instanceMethod ({ cls := "CharMachine$Processor", name := "takeOverflow", desc := "()Z" } : Jvm.MethodName)) ∈ BIG := List.mem_filter.mpr ⟨List.mem_of_getElem? (i := 554) (by decide +kernel), by decide +kernel⟩
set_option maxRecDepth 100000 in
theorem tw_501 : (Jvm.Cond.code ({ cls := "CharMachine$Processor", name := "takeOverflow", desc := "()Z" } : Jvm.MethodName) prog_4_method_25_code (2 : Nat) (Option.some Jvm.ClassFile.FieldType.boolean)) ∈ BIG := List.mem_filter.mpr ⟨List.mem_of_getElem? (i := 555) rfl, rfl⟩
theorem tw_502 : (Jvm.Cond.methodLink "CharMachine$Processor" (116 : Nat) ({ cls := "CharMachine$Processor", name := "branchByPosition", desc := "()I" } : Jvm.MethodName)) ∈ BIG := List.mem_filter.mpr ⟨List.mem_of_getElem? (i := 556) (by decide +kernel), by decide +kernel⟩
theorem tw_504 : (Jvm.Cond.instanceMethod ({ cls := "CharMachine$Processor", name := "branchByPosition", desc := "()I" } : Jvm.MethodName)) ∈ BIG := List.mem_filter.mpr ⟨List.mem_of_getElem? (i := 558) (by decide +kernel), by decide +kernel⟩
set_option maxRecDepth 100000 in
theorem tw_505 : (Jvm.Cond.code ({ cls := "CharMachine$Processor", name := "branchByPosition", desc := "()I" } : Jvm.MethodName) prog_4_method_26_code (2 : Nat) (Option.some Jvm.ClassFile.FieldType.int)) ∈ BIG := List.mem_filter.mpr ⟨List.mem_of_getElem? (i := 559) rfl, rfl⟩
theorem tw_506 : (Jvm.Cond.methodLink "CharMachine$Processor" (222 : Nat) ({ cls := "CharMachine$Processor", name := "isAsAsked", desc := "(II)Z" } : Jvm.MethodName)) ∈ BIG := List.mem_filter.mpr ⟨List.mem_of_getElem? (i := 560) (by decide +kernel), by decide +kernel⟩
theorem tw_508 : (Jvm.Cond.instanceMethod ({ cls := "CharMachine$Processor", name := "isAsAsked", desc := "(II)Z" } : Jvm.MethodName)) ∈ BIG := List.mem_filter.mpr ⟨List.mem_of_getElem? (i := 562) (by decide +kernel), by decide +kernel⟩
set_option maxRecDepth 100000 in
theorem tw_509 : (Jvm.Cond.code ({ cls := "CharMachine$Processor", name := "isAsAsked", desc := "(II)Z" } : Jvm.MethodName) prog_4_method_27_code (4 : Nat) (Option.some Jvm.ClassFile.FieldType.boolean)) ∈ BIG := List.mem_filter.mpr ⟨List.mem_of_getElem? (i := 563) rfl, rfl⟩
theorem tw_510 : (Jvm.Cond.methodLink "CharMachine$Processor" (225 : Nat) ({ cls := "CharMachine$Store", name := "zone", desc := "(I)I" } : Jvm.MethodName)) ∈ BIG := List.mem_filter.mpr ⟨List.mem_of_getElem? (i := 564) (by decide +kernel), by decide +kernel⟩
theorem tw_511 : (Jvm.Cond.methodLink "CharMachine$Processor" (119 : Nat) ({ cls := "CharMachine$Processor", name := "readCard", desc := "(Z)I" } : Jvm.MethodName)) ∈ BIG := List.mem_filter.mpr ⟨List.mem_of_getElem? (i := 565) (by decide +kernel), by decide +kernel⟩
theorem tw_513 : (Jvm.Cond.instanceMethod ({ cls := "CharMachine$Processor", name := "readCard", desc := "(Z)I" } : Jvm.MethodName)) ∈ BIG := List.mem_filter.mpr ⟨List.mem_of_getElem? (i := 567) (by decide +kernel), by decide +kernel⟩
set_option maxRecDepth 100000 in
theorem tw_514 : (Jvm.Cond.code ({ cls := "CharMachine$Processor", name := "readCard", desc := "(Z)I" } : Jvm.MethodName) prog_4_method_28_code (3 : Nat) (Option.some Jvm.ClassFile.FieldType.int)) ∈ BIG := List.mem_filter.mpr ⟨List.mem_of_getElem? (i := 568) rfl, rfl⟩
theorem tw_515 : (Jvm.Cond.methodLink "CharMachine$Processor" (228 : Nat) ({ cls := "CharMachine$Processor", name := "cardsToRead", desc := "()I" } : Jvm.MethodName)) ∈ BIG := List.mem_filter.mpr ⟨List.mem_of_getElem? (i := 569) (by decide +kernel), by decide +kernel⟩
theorem tw_516 : (Jvm.Cond.methodLink "CharMachine$Processor" (231 : Nat) ({ cls := "CharMachine$Pile", name := "character", desc := "(II)I" } : Jvm.MethodName)) ∈ BIG := List.mem_filter.mpr ⟨List.mem_of_getElem? (i := 570) (by decide +kernel), by decide +kernel⟩
theorem tw_517 : (Jvm.Cond.instanceMethod ({ cls := "CharMachine$Pile", name := "character", desc := "(II)I" } : Jvm.MethodName)) ∈ BIG := List.mem_filter.mpr ⟨List.mem_of_getElem? (i := 571) (by decide +kernel), by decide +kernel⟩
theorem tw_518 : (Jvm.Cond.selects "CharMachine$Pile" ({ cls := "CharMachine$Pile", name := "character", desc := "(II)I" } : Jvm.MethodName) ({ cls := "CharMachine$Pile", name := "character", desc := "(II)I" } : Jvm.MethodName)) ∈ BIG := List.mem_filter.mpr ⟨List.mem_of_getElem? (i := 572) (by decide +kernel), by decide +kernel⟩
set_option maxRecDepth 100000 in
theorem tw_519 : (Jvm.Cond.code ({ cls := "CharMachine$Pile", name := "character", desc := "(II)I" } : Jvm.MethodName) prog_3_method_5_code (3 : Nat) (Option.some Jvm.ClassFile.FieldType.int)) ∈ BIG := List.mem_filter.mpr ⟨List.mem_of_getElem? (i := 573) rfl, rfl⟩
theorem tw_520 : (Jvm.Cond.methodLink "CharMachine$Processor" (233 : Nat) ({ cls := "CharMachine$Processor", name := "endTransfer", desc := "(IZ)V" } : Jvm.MethodName)) ∈ BIG := List.mem_filter.mpr ⟨List.mem_of_getElem? (i := 574) (by decide +kernel), by decide +kernel⟩
theorem tw_522 : (Jvm.Cond.instanceMethod ({ cls := "CharMachine$Processor", name := "endTransfer", desc := "(IZ)V" } : Jvm.MethodName)) ∈ BIG := List.mem_filter.mpr ⟨List.mem_of_getElem? (i := 576) (by decide +kernel), by decide +kernel⟩
set_option maxRecDepth 100000 in
theorem tw_523 : (Jvm.Cond.code ({ cls := "CharMachine$Processor", name := "endTransfer", desc := "(IZ)V" } : Jvm.MethodName) prog_4_method_30_code (3 : Nat) (Option.none : Option Jvm.ClassFile.FieldType)) ∈ BIG := List.mem_filter.mpr ⟨List.mem_of_getElem? (i := 577) rfl, rfl⟩
theorem tw_524 : (Jvm.Cond.methodLink "CharMachine$Processor" (122 : Nat) ({ cls := "CharMachine$Processor", name := "fillRow", desc := "(LCharMachine$Pile;IIZ)I" } : Jvm.MethodName)) ∈ BIG := List.mem_filter.mpr ⟨List.mem_of_getElem? (i := 578) (by decide +kernel), by decide +kernel⟩
theorem tw_526 : (Jvm.Cond.instanceMethod ({ cls := "CharMachine$Processor", name := "fillRow", desc := "(LCharMachine$Pile;IIZ)I" } : Jvm.MethodName)) ∈ BIG := List.mem_filter.mpr ⟨List.mem_of_getElem? (i := 580) (by decide +kernel), by decide +kernel⟩
set_option maxRecDepth 100000 in
theorem tw_527 : (Jvm.Cond.code ({ cls := "CharMachine$Processor", name := "fillRow", desc := "(LCharMachine$Pile;IIZ)I" } : Jvm.MethodName) prog_4_method_29_code (5 : Nat) (Option.some Jvm.ClassFile.FieldType.int)) ∈ BIG := List.mem_filter.mpr ⟨List.mem_of_getElem? (i := 581) rfl, rfl⟩
theorem tw_528 : (Jvm.Cond.methodLink "CharMachine$Processor" (236 : Nat) ({ cls := "CharMachine$Pile", name := "isFull", desc := "()Z" } : Jvm.MethodName)) ∈ BIG := List.mem_filter.mpr ⟨List.mem_of_getElem? (i := 582) (by decide +kernel), by decide +kernel⟩
theorem tw_529 : (Jvm.Cond.methodLink "CharMachine$Processor" (239 : Nat) ({ cls := "CharMachine$Pile", name := "copy", desc := "(LCharMachine$Store;I)V" } : Jvm.MethodName)) ∈ BIG := List.mem_filter.mpr ⟨List.mem_of_getElem? (i := 583) (by decide +kernel), by decide +kernel⟩
theorem tw_530 : (Jvm.Cond.instanceMethod ({ cls := "CharMachine$Pile", name := "copy", desc := "(LCharMachine$Store;I)V" } : Jvm.MethodName)) ∈ BIG := List.mem_filter.mpr ⟨List.mem_of_getElem? (i := 584) (by decide +kernel), by decide +kernel⟩
theorem tw_531 : (Jvm.Cond.selects "CharMachine$Pile" ({ cls := "CharMachine$Pile", name := "copy", desc := "(LCharMachine$Store;I)V" } : Jvm.MethodName) ({ cls := "CharMachine$Pile", name := "copy", desc := "(LCharMachine$Store;I)V" } : Jvm.MethodName)) ∈ BIG := List.mem_filter.mpr ⟨List.mem_of_getElem? (i := 585) (by decide +kernel), by decide +kernel⟩
set_option maxRecDepth 100000 in
theorem tw_532 : (Jvm.Cond.code ({ cls := "CharMachine$Pile", name := "copy", desc := "(LCharMachine$Store;I)V" } : Jvm.MethodName) prog_3_method_8_code (4 : Nat) (Option.none : Option Jvm.ClassFile.FieldType)) ∈ BIG := List.mem_filter.mpr ⟨List.mem_of_getElem? (i := 586) rfl, rfl⟩
theorem tw_533 : (Jvm.Cond.methodLink "CharMachine$Pile" (23 : Nat) ({ cls := "CharMachine$Store", name := "character", desc := "(I)I" } : Jvm.MethodName)) ∈ BIG := List.mem_filter.mpr ⟨List.mem_of_getElem? (i := 587) (by decide +kernel), by decide +kernel⟩
theorem tw_534 : (Jvm.Cond.methodLink "CharMachine$Pile" (29 : Nat) ({ cls := "CharMachine$Pile", name := "write", desc := "(II)V" } : Jvm.MethodName)) ∈ BIG := List.mem_filter.mpr ⟨List.mem_of_getElem? (i := 588) (by decide +kernel), by decide +kernel⟩
theorem tw_535 : (Jvm.Cond.methodLink "CharMachine$Pile" (33 : Nat) ({ cls := "CharMachine$Pile", name := "close", desc := "()V" } : Jvm.MethodName)) ∈ BIG := List.mem_filter.mpr ⟨List.mem_of_getElem? (i := 589) (by decide +kernel), by decide +kernel⟩
theorem tw_536 : (Jvm.Cond.methodLink "CharMachine$Processor" (126 : Nat) ({ cls := "CharMachine$Processor", name := "storeAddress", desc := "(I)I" } : Jvm.MethodName)) ∈ BIG := List.mem_filter.mpr ⟨List.mem_of_getElem? (i := 590) (by decide +kernel), by decide +kernel⟩
theorem tw_538 : (Jvm.Cond.instanceMethod ({ cls := "CharMachine$Processor", name := "storeAddress", desc := "(I)I" } : Jvm.MethodName)) ∈ BIG := List.mem_filter.mpr ⟨List.mem_of_getElem? (i := 592) (by decide +kernel), by decide +kernel⟩
set_option maxRecDepth 100000 in
theorem tw_539 : (Jvm.Cond.code ({ cls := "CharMachine$Processor", name := "storeAddress", desc := "(I)I" } : Jvm.MethodName) prog_4_method_31_code (2 : Nat) (Option.some Jvm.ClassFile.FieldType.int)) ∈ BIG := List.mem_filter.mpr ⟨List.mem_of_getElem? (i := 593) rfl, rfl⟩
theorem tw_540 : (Jvm.Cond.methodLink "CharMachine$Processor" (243 : Nat) ({ cls := "java/lang/Math", name := "floorMod", desc := "(II)I" } : Jvm.MethodName)) ∈ BIG := List.mem_filter.mpr ⟨List.mem_of_getElem? (i := 594) (by decide +kernel), by decide +kernel⟩
theorem tw_541 : (Jvm.Cond.static ({ cls := "java/lang/Math", name := "floorMod", desc := "(II)I" } : Jvm.MethodName)) ∈ BIG := List.mem_filter.mpr ⟨List.mem_of_getElem? (i := 595) (by decide +kernel), by decide +kernel⟩
set_option maxRecDepth 100000 in
theorem tw_542 : (Jvm.Cond.code ({ cls := "java/lang/Math", name := "floorMod", desc := "(II)I" } : Jvm.MethodName) prog_13_method_50_code (3 : Nat) (Option.some Jvm.ClassFile.FieldType.int)) ∈ BIG := List.mem_filter.mpr ⟨List.mem_of_getElem? (i := 596) rfl, rfl⟩
theorem tw_543 : (Jvm.Cond.methodLink "CharMachine$Processor" (248 : Nat) ({ cls := "CharMachine$Store", name := "writeAddress", desc := "(II)V" } : Jvm.MethodName)) ∈ BIG := List.mem_filter.mpr ⟨List.mem_of_getElem? (i := 597) (by decide +kernel), by decide +kernel⟩
theorem tw_544 : (Jvm.Cond.instanceMethod ({ cls := "CharMachine$Store", name := "writeAddress", desc := "(II)V" } : Jvm.MethodName)) ∈ BIG := List.mem_filter.mpr ⟨List.mem_of_getElem? (i := 598) (by decide +kernel), by decide +kernel⟩
theorem tw_545 : (Jvm.Cond.selects "CharMachine$Store" ({ cls := "CharMachine$Store", name := "writeAddress", desc := "(II)V" } : Jvm.MethodName) ({ cls := "CharMachine$Store", name := "writeAddress", desc := "(II)V" } : Jvm.MethodName)) ∈ BIG := List.mem_filter.mpr ⟨List.mem_of_getElem? (i := 599) (by decide +kernel), by decide +kernel⟩
set_option maxRecDepth 100000 in
theorem tw_546 : (Jvm.Cond.code ({ cls := "CharMachine$Store", name := "writeAddress", desc := "(II)V" } : Jvm.MethodName) prog_5_method_19_code (4 : Nat) (Option.none : Option Jvm.ClassFile.FieldType)) ∈ BIG := List.mem_filter.mpr ⟨List.mem_of_getElem? (i := 600) rfl, rfl⟩
theorem tw_548 : (Jvm.Cond.methodLink "CharMachine$Processor" (129 : Nat) ({ cls := "CharMachine$Processor", name := "halt", desc := "(Z)I" } : Jvm.MethodName)) ∈ BIG := List.mem_filter.mpr ⟨List.mem_of_getElem? (i := 602) (by decide +kernel), by decide +kernel⟩
theorem tw_550 : (Jvm.Cond.instanceMethod ({ cls := "CharMachine$Processor", name := "halt", desc := "(Z)I" } : Jvm.MethodName)) ∈ BIG := List.mem_filter.mpr ⟨List.mem_of_getElem? (i := 604) (by decide +kernel), by decide +kernel⟩
set_option maxRecDepth 100000 in
theorem tw_551 : (Jvm.Cond.code ({ cls := "CharMachine$Processor", name := "halt", desc := "(Z)I" } : Jvm.MethodName) prog_4_method_32_code (2 : Nat) (Option.some Jvm.ClassFile.FieldType.int)) ∈ BIG := List.mem_filter.mpr ⟨List.mem_of_getElem? (i := 605) rfl, rfl⟩
theorem tw_552 : (Jvm.Cond.methodLink "CharMachineLaw" (90 : Nat) ({ cls := "CharMachineLaw", name := "at", desc := "(LCharMachine;I[J)I" } : Jvm.MethodName)) ∈ BIG := List.mem_filter.mpr ⟨List.mem_of_getElem? (i := 606) (by decide +kernel), by decide +kernel⟩
theorem tw_553 : (Jvm.Cond.static ({ cls := "CharMachineLaw", name := "at", desc := "(LCharMachine;I[J)I" } : Jvm.MethodName)) ∈ BIG := List.mem_filter.mpr ⟨List.mem_of_getElem? (i := 607) (by decide +kernel), by decide +kernel⟩
theorem tw_555 : (Jvm.Cond.classLink "CharMachineLaw" (28 : Nat) "java/lang/IndexOutOfBoundsException") ∈ BIG := List.mem_filter.mpr ⟨List.mem_of_getElem? (i := 609) (by decide +kernel), by decide +kernel⟩
theorem tw_556 : (Jvm.Cond.methodLink "CharMachineLaw" (25 : Nat) ({ cls := "CharMachine", name := "at", desc := "(I)I" } : Jvm.MethodName)) ∈ BIG := List.mem_filter.mpr ⟨List.mem_of_getElem? (i := 610) (by decide +kernel), by decide +kernel⟩
theorem tw_557 : (Jvm.Cond.instanceMethod ({ cls := "CharMachine", name := "at", desc := "(I)I" } : Jvm.MethodName)) ∈ BIG := List.mem_filter.mpr ⟨List.mem_of_getElem? (i := 611) (by decide +kernel), by decide +kernel⟩
theorem tw_558 : (Jvm.Cond.selects "CharMachine" ({ cls := "CharMachine", name := "at", desc := "(I)I" } : Jvm.MethodName) ({ cls := "CharMachine", name := "at", desc := "(I)I" } : Jvm.MethodName)) ∈ BIG := List.mem_filter.mpr ⟨List.mem_of_getElem? (i := 612) (by decide +kernel), by decide +kernel⟩
set_option maxRecDepth 100000 in
theorem tw_559 : (Jvm.Cond.code ({ cls := "CharMachine", name := "at", desc := "(I)I" } : Jvm.MethodName) prog_1_method_8_code (2 : Nat) (Option.some Jvm.ClassFile.FieldType.int)) ∈ BIG := List.mem_filter.mpr ⟨List.mem_of_getElem? (i := 613) rfl, rfl⟩
theorem tw_560 : (Jvm.Cond.classLink "CharMachine" (97 : Nat) "java/lang/IndexOutOfBoundsException") ∈ BIG := List.mem_filter.mpr ⟨List.mem_of_getElem? (i := 614) (by decide +kernel), by decide +kernel⟩
theorem tw_561 : (Jvm.Cond.instantiable "java/lang/IndexOutOfBoundsException" (6 : Nat)) ∈ BIG := List.mem_filter.mpr ⟨List.mem_of_getElem? (i := 615) (by decide +kernel), by decide +kernel⟩
theorem tw_563 : (Jvm.Cond.selects "java/lang/IndexOutOfBoundsException" ({ cls := "java/lang/Throwable", name := "fillInStackTrace", desc := "(I)Ljava/lang/Throwable;" } : Jvm.MethodName) ({ cls := "java/lang/Throwable", name := "fillInStackTrace", desc := "(I)Ljava/lang/Throwable;" } : Jvm.MethodName)) ∈ BIG := List.mem_filter.mpr ⟨List.mem_of_getElem? (i := 617) (by decide +kernel), by decide +kernel⟩
theorem tw_564 : (Jvm.Cond.lays "java/lang/IndexOutOfBoundsException" "java/lang/Throwable" "cause" "Ljava/lang/Throwable;") ∈ BIG := List.mem_filter.mpr ⟨List.mem_of_getElem? (i := 618) (by decide +kernel), by decide +kernel⟩
theorem tw_565 : (Jvm.Cond.lays "java/lang/IndexOutOfBoundsException" "java/lang/Throwable" "stackTrace" "[Ljava/lang/StackTraceElement;") ∈ BIG := List.mem_filter.mpr ⟨List.mem_of_getElem? (i := 619) (by decide +kernel), by decide +kernel⟩
theorem tw_566 : (Jvm.Cond.lays "java/lang/IndexOutOfBoundsException" "java/lang/Throwable" "suppressedExceptions" "Ljava/util/List;") ∈ BIG := List.mem_filter.mpr ⟨List.mem_of_getElem? (i := 620) (by decide +kernel), by decide +kernel⟩
theorem tw_567 : (Jvm.Cond.lays "java/lang/IndexOutOfBoundsException" "java/lang/Throwable" "detailMessage" "Ljava/lang/String;") ∈ BIG := List.mem_filter.mpr ⟨List.mem_of_getElem? (i := 621) (by decide +kernel), by decide +kernel⟩
theorem tw_568 : (Jvm.Cond.lays "java/lang/IndexOutOfBoundsException" "java/lang/Throwable" "backtrace" "Ljava/lang/Object;") ∈ BIG := List.mem_filter.mpr ⟨List.mem_of_getElem? (i := 622) (by decide +kernel), by decide +kernel⟩
theorem tw_569 : (Jvm.Cond.methodLink "CharMachine" (99 : Nat) ({ cls := "java/lang/IndexOutOfBoundsException", name := "<init>", desc := "()V" } : Jvm.MethodName)) ∈ BIG := List.mem_filter.mpr ⟨List.mem_of_getElem? (i := 623) (by decide +kernel), by decide +kernel⟩
theorem tw_570 : (Jvm.Cond.instanceMethod ({ cls := "java/lang/IndexOutOfBoundsException", name := "<init>", desc := "()V" } : Jvm.MethodName)) ∈ BIG := List.mem_filter.mpr ⟨List.mem_of_getElem? (i := 624) (by decide +kernel), by decide +kernel⟩
set_option maxRecDepth 100000 in
theorem tw_571 : (Jvm.Cond.code ({ cls := "java/lang/IndexOutOfBoundsException", name := "<init>", desc := "()V" } : Jvm.MethodName) prog_11_method_1_code (1 : Nat) (Option.none : Option Jvm.ClassFile.FieldType)) ∈ BIG := List.mem_filter.mpr ⟨List.mem_of_getElem? (i := 625) rfl, rfl⟩
theorem tw_572 : (Jvm.Cond.methodLink "java/lang/IndexOutOfBoundsException" (1 : Nat) ({ cls := "java/lang/RuntimeException", name := "<init>", desc := "()V" } : Jvm.MethodName)) ∈ BIG := List.mem_filter.mpr ⟨List.mem_of_getElem? (i := 626) (by decide +kernel), by decide +kernel⟩
theorem tw_573 : (Jvm.Cond.lays "java/lang/IndexOutOfBoundsException" "java/lang/Throwable" "depth" "I") ∈ BIG := List.mem_filter.mpr ⟨List.mem_of_getElem? (i := 627) (by decide +kernel), by decide +kernel⟩
theorem tw_575 : (Jvm.Cond.methodLink "CharMachine" (100 : Nat) ({ cls := "CharMachine$Store", name := "character", desc := "(I)I" } : Jvm.MethodName)) ∈ BIG := List.mem_filter.mpr ⟨List.mem_of_getElem? (i := 629) (by decide +kernel), by decide +kernel⟩
theorem tw_576 : (Jvm.Cond.methodLink "CharMachineLaw" (93 : Nat) ({ cls := "CharMachineLaw", name := "isMarked", desc := "(LCharMachine;I[J)I" } : Jvm.MethodName)) ∈ BIG := List.mem_filter.mpr ⟨List.mem_of_getElem? (i := 630) (by decide +kernel), by decide +kernel⟩
theorem tw_577 : (Jvm.Cond.static ({ cls := "CharMachineLaw", name := "isMarked", desc := "(LCharMachine;I[J)I" } : Jvm.MethodName)) ∈ BIG := List.mem_filter.mpr ⟨List.mem_of_getElem? (i := 631) (by decide +kernel), by decide +kernel⟩
theorem tw_579 : (Jvm.Cond.methodLink "CharMachineLaw" (30 : Nat) ({ cls := "CharMachine", name := "isMarked", desc := "(I)Z" } : Jvm.MethodName)) ∈ BIG := List.mem_filter.mpr ⟨List.mem_of_getElem? (i := 633) (by decide +kernel), by decide +kernel⟩
theorem tw_580 : (Jvm.Cond.instanceMethod ({ cls := "CharMachine", name := "isMarked", desc := "(I)Z" } : Jvm.MethodName)) ∈ BIG := List.mem_filter.mpr ⟨List.mem_of_getElem? (i := 634) (by decide +kernel), by decide +kernel⟩
theorem tw_581 : (Jvm.Cond.selects "CharMachine" ({ cls := "CharMachine", name := "isMarked", desc := "(I)Z" } : Jvm.MethodName) ({ cls := "CharMachine", name := "isMarked", desc := "(I)Z" } : Jvm.MethodName)) ∈ BIG := List.mem_filter.mpr ⟨List.mem_of_getElem? (i := 635) (by decide +kernel), by decide +kernel⟩
set_option maxRecDepth 100000 in
theorem tw_582 : (Jvm.Cond.code ({ cls := "CharMachine", name := "isMarked", desc := "(I)Z" } : Jvm.MethodName) prog_1_method_9_code (2 : Nat) (Option.some Jvm.ClassFile.FieldType.boolean)) ∈ BIG := List.mem_filter.mpr ⟨List.mem_of_getElem? (i := 636) rfl, rfl⟩
theorem tw_583 : (Jvm.Cond.methodLink "CharMachine" (104 : Nat) ({ cls := "CharMachine$Store", name := "hasMark", desc := "(I)Z" } : Jvm.MethodName)) ∈ BIG := List.mem_filter.mpr ⟨List.mem_of_getElem? (i := 637) (by decide +kernel), by decide +kernel⟩
theorem tw_584 : (Jvm.Cond.methodLink "CharMachineLaw" (100 : Nat) ({ cls := "CharMachineLaw", name := "printed", desc := "(LCharMachine;II[J)I" } : Jvm.MethodName)) ∈ BIG := List.mem_filter.mpr ⟨List.mem_of_getElem? (i := 638) (by decide +kernel), by decide +kernel⟩
theorem tw_585 : (Jvm.Cond.static ({ cls := "CharMachineLaw", name := "printed", desc := "(LCharMachine;II[J)I" } : Jvm.MethodName)) ∈ BIG := List.mem_filter.mpr ⟨List.mem_of_getElem? (i := 639) (by decide +kernel), by decide +kernel⟩
theorem tw_587 : (Jvm.Cond.methodLink "CharMachineLaw" (34 : Nat) ({ cls := "CharMachine", name := "printed", desc := "(II)I" } : Jvm.MethodName)) ∈ BIG := List.mem_filter.mpr ⟨List.mem_of_getElem? (i := 641) (by decide +kernel), by decide +kernel⟩
theorem tw_588 : (Jvm.Cond.instanceMethod ({ cls := "CharMachine", name := "printed", desc := "(II)I" } : Jvm.MethodName)) ∈ BIG := List.mem_filter.mpr ⟨List.mem_of_getElem? (i := 642) (by decide +kernel), by decide +kernel⟩
theorem tw_589 : (Jvm.Cond.selects "CharMachine" ({ cls := "CharMachine", name := "printed", desc := "(II)I" } : Jvm.MethodName) ({ cls := "CharMachine", name := "printed", desc := "(II)I" } : Jvm.MethodName)) ∈ BIG := List.mem_filter.mpr ⟨List.mem_of_getElem? (i := 643) (by decide +kernel), by decide +kernel⟩
set_option maxRecDepth 100000 in
theorem tw_590 : (Jvm.Cond.code ({ cls := "CharMachine", name := "printed", desc := "(II)I" } : Jvm.MethodName) prog_1_method_11_code (3 : Nat) (Option.some Jvm.ClassFile.FieldType.int)) ∈ BIG := List.mem_filter.mpr ⟨List.mem_of_getElem? (i := 644) rfl, rfl⟩
theorem tw_591 : (Jvm.Cond.methodLink "CharMachine" (123 : Nat) ({ cls := "CharMachine$Pile", name := "holds", desc := "(II)Z" } : Jvm.MethodName)) ∈ BIG := List.mem_filter.mpr ⟨List.mem_of_getElem? (i := 645) (by decide +kernel), by decide +kernel⟩
theorem tw_592 : (Jvm.Cond.instanceMethod ({ cls := "CharMachine$Pile", name := "holds", desc := "(II)Z" } : Jvm.MethodName)) ∈ BIG := List.mem_filter.mpr ⟨List.mem_of_getElem? (i := 646) (by decide +kernel), by decide +kernel⟩
theorem tw_593 : (Jvm.Cond.selects "CharMachine$Pile" ({ cls := "CharMachine$Pile", name := "holds", desc := "(II)Z" } : Jvm.MethodName) ({ cls := "CharMachine$Pile", name := "holds", desc := "(II)Z" } : Jvm.MethodName)) ∈ BIG := List.mem_filter.mpr ⟨List.mem_of_getElem? (i := 647) (by decide +kernel), by decide +kernel⟩
set_option maxRecDepth 100000 in
theorem tw_594 : (Jvm.Cond.code ({ cls := "CharMachine$Pile", name := "holds", desc := "(II)Z" } : Jvm.MethodName) prog_3_method_4_code (3 : Nat) (Option.some Jvm.ClassFile.FieldType.boolean)) ∈ BIG := List.mem_filter.mpr ⟨List.mem_of_getElem? (i := 648) rfl, rfl⟩
theorem tw_595 : (Jvm.Cond.methodLink "CharMachine" (127 : Nat) ({ cls := "CharMachine$Pile", name := "character", desc := "(II)I" } : Jvm.MethodName)) ∈ BIG := List.mem_filter.mpr ⟨List.mem_of_getElem? (i := 649) (by decide +kernel), by decide +kernel⟩
theorem tw_596 : (Jvm.Cond.methodLink "CharMachineLaw" (104 : Nat) ({ cls := "CharMachineLaw", name := "punched", desc := "(LCharMachine;II[J)I" } : Jvm.MethodName)) ∈ BIG := List.mem_filter.mpr ⟨List.mem_of_getElem? (i := 650) (by decide +kernel), by decide +kernel⟩
theorem tw_597 : (Jvm.Cond.static ({ cls := "CharMachineLaw", name := "punched", desc := "(LCharMachine;II[J)I" } : Jvm.MethodName)) ∈ BIG := List.mem_filter.mpr ⟨List.mem_of_getElem? (i := 651) (by decide +kernel), by decide +kernel⟩
theorem tw_599 : (Jvm.Cond.methodLink "CharMachineLaw" (38 : Nat) ({ cls := "CharMachine", name := "punched", desc := "(II)I" } : Jvm.MethodName)) ∈ BIG := List.mem_filter.mpr ⟨List.mem_of_getElem? (i := 653) (by decide +kernel), by decide +kernel⟩
theorem tw_600 : (Jvm.Cond.instanceMethod ({ cls := "CharMachine", name := "punched", desc := "(II)I" } : Jvm.MethodName)) ∈ BIG := List.mem_filter.mpr ⟨List.mem_of_getElem? (i := 654) (by decide +kernel), by decide +kernel⟩
theorem tw_601 : (Jvm.Cond.selects "CharMachine" ({ cls := "CharMachine", name := "punched", desc := "(II)I" } : Jvm.MethodName) ({ cls := "CharMachine", name := "punched", desc := "(II)I" } : Jvm.MethodName)) ∈ BIG := List.mem_filter.mpr ⟨List.mem_of_getElem? (i := 655) (by decide +kernel), by decide +kernel⟩
set_option maxRecDepth 100000 in
theorem tw_602 : (Jvm.Cond.code ({ cls := "CharMachine", name := "punched", desc := "(II)I" } : Jvm.MethodName) prog_1_method_12_code (3 : Nat) (Option.some Jvm.ClassFile.FieldType.int)) ∈ BIG := List.mem_filter.mpr ⟨List.mem_of_getElem? (i := 656) rfl, rfl⟩
theorem tw_603 : (Jvm.Cond.methodLink "CharMachineLaw" (107 : Nat) ({ cls := "CharMachineLaw", name := "number", desc := "(LCharMachine;I[J)I" } : Jvm.MethodName)) ∈ BIG := List.mem_filter.mpr ⟨List.mem_of_getElem? (i := 657) (by decide +kernel), by decide +kernel⟩
theorem tw_604 : (Jvm.Cond.static ({ cls := "CharMachineLaw", name := "number", desc := "(LCharMachine;I[J)I" } : Jvm.MethodName)) ∈ BIG := List.mem_filter.mpr ⟨List.mem_of_getElem? (i := 658) (by decide +kernel), by decide +kernel⟩
theorem tw_606 : (Jvm.Cond.classLink "CharMachineLaw" (45 : Nat) "java/lang/UnsupportedOperationException") ∈ BIG := List.mem_filter.mpr ⟨List.mem_of_getElem? (i := 660) (by decide +kernel), by decide +kernel⟩
theorem tw_607 : (Jvm.Cond.methodLink "CharMachineLaw" (41 : Nat) ({ cls := "CharMachine", name := "number", desc := "(I)J" } : Jvm.MethodName)) ∈ BIG := List.mem_filter.mpr ⟨List.mem_of_getElem? (i := 661) (by decide +kernel), by decide +kernel⟩
theorem tw_608 : (Jvm.Cond.instanceMethod ({ cls := "CharMachine", name := "number", desc := "(I)J" } : Jvm.MethodName)) ∈ BIG := List.mem_filter.mpr ⟨List.mem_of_getElem? (i := 662) (by decide +kernel), by decide +kernel⟩
theorem tw_609 : (Jvm.Cond.selects "CharMachine" ({ cls := "CharMachine", name := "number", desc := "(I)J" } : Jvm.MethodName) ({ cls := "CharMachine", name := "number", desc := "(I)J" } : Jvm.MethodName)) ∈ BIG := List.mem_filter.mpr ⟨List.mem_of_getElem? (i := 663) (by decide +kernel), by decide +kernel⟩
set_option maxRecDepth 100000 in
theorem tw_610 : (Jvm.Cond.code ({ cls := "CharMachine", name := "number", desc := "(I)J" } : Jvm.MethodName) prog_1_method_13_code (6 : Nat) (Option.some Jvm.ClassFile.FieldType.long)) ∈ BIG := List.mem_filter.mpr ⟨List.mem_of_getElem? (i := 664) rfl, rfl⟩
theorem tw_611 : (Jvm.Cond.methodLink "CharMachine" (130 : Nat) ({ cls := "CharMachine$Store", name := "fieldLength", desc := "(I)I" } : Jvm.MethodName)) ∈ BIG := List.mem_filter.mpr ⟨List.mem_of_getElem? (i := 665) (by decide +kernel), by decide +kernel⟩
theorem tw_612 : (Jvm.Cond.classLink "CharMachine" (133 : Nat) "java/lang/UnsupportedOperationException") ∈ BIG := List.mem_filter.mpr ⟨List.mem_of_getElem? (i := 666) (by decide +kernel), by decide +kernel⟩
theorem tw_613 : (Jvm.Cond.instantiable "java/lang/UnsupportedOperationException" (6 : Nat)) ∈ BIG := List.mem_filter.mpr ⟨List.mem_of_getElem? (i := 667) (by decide +kernel), by decide +kernel⟩
theorem tw_615 : (Jvm.Cond.selects "java/lang/UnsupportedOperationException" ({ cls := "java/lang/Throwable", name := "fillInStackTrace", desc := "(I)Ljava/lang/Throwable;" } : Jvm.MethodName) ({ cls := "java/lang/Throwable", name := "fillInStackTrace", desc := "(I)Ljava/lang/Throwable;" } : Jvm.MethodName)) ∈ BIG := List.mem_filter.mpr ⟨List.mem_of_getElem? (i := 669) (by decide +kernel), by decide +kernel⟩
theorem tw_616 : (Jvm.Cond.lays "java/lang/UnsupportedOperationException" "java/lang/Throwable" "cause" "Ljava/lang/Throwable;") ∈ BIG := List.mem_filter.mpr ⟨List.mem_of_getElem? (i := 670) (by decide +kernel), by decide +kernel⟩
theorem tw_617 : (Jvm.Cond.lays "java/lang/UnsupportedOperationException" "java/lang/Throwable" "stackTrace" "[Ljava/lang/StackTraceElement;") ∈ BIG := List.mem_filter.mpr ⟨List.mem_of_getElem? (i := 671) (by decide +kernel), by decide +kernel⟩
theorem tw_618 : (Jvm.Cond.lays "java/lang/UnsupportedOperationException" "java/lang/Throwable" "suppressedExceptions" "Ljava/util/List;") ∈ BIG := List.mem_filter.mpr ⟨List.mem_of_getElem? (i := 672) (by decide +kernel), by decide +kernel⟩
theorem tw_619 : (Jvm.Cond.lays "java/lang/UnsupportedOperationException" "java/lang/Throwable" "detailMessage" "Ljava/lang/String;") ∈ BIG := List.mem_filter.mpr ⟨List.mem_of_getElem? (i := 673) (by decide +kernel), by decide +kernel⟩
theorem tw_620 : (Jvm.Cond.lays "java/lang/UnsupportedOperationException" "java/lang/Throwable" "backtrace" "Ljava/lang/Object;") ∈ BIG := List.mem_filter.mpr ⟨List.mem_of_getElem? (i := 674) (by decide +kernel), by decide +kernel⟩
theorem tw_621 : (Jvm.Cond.methodLink "CharMachine" (135 : Nat) ({ cls := "java/lang/UnsupportedOperationException", name := "<init>", desc := "()V" } : Jvm.MethodName)) ∈ BIG := List.mem_filter.mpr ⟨List.mem_of_getElem? (i := 675) (by decide +kernel), by decide +kernel⟩
theorem tw_622 : (Jvm.Cond.instanceMethod ({ cls := "java/lang/UnsupportedOperationException", name := "<init>", desc := "()V" } : Jvm.MethodName)) ∈ BIG := List.mem_filter.mpr ⟨List.mem_of_getElem? (i := 676) (by decide +kernel), by decide +kernel⟩
set_option maxRecDepth 100000 in
theorem tw_623 : (Jvm.Cond.code ({ cls := "java/lang/UnsupportedOperationException", name := "<init>", desc := "()V" } : Jvm.MethodName) prog_17_method_1_code (1 : Nat) (Option.none : Option Jvm.ClassFile.FieldType)) ∈ BIG := List.mem_filter.mpr ⟨List.mem_of_getElem? (i := 677) rfl, rfl⟩
theorem tw_624 : (Jvm.Cond.methodLink "java/lang/UnsupportedOperationException" (1 : Nat) ({ cls := "java/lang/RuntimeException", name := "<init>", desc := "()V" } : Jvm.MethodName)) ∈ BIG := List.mem_filter.mpr ⟨List.mem_of_getElem? (i := 678) (by decide +kernel), by decide +kernel⟩
theorem tw_625 : (Jvm.Cond.lays "java/lang/UnsupportedOperationException" "java/lang/Throwable" "depth" "I") ∈ BIG := List.mem_filter.mpr ⟨List.mem_of_getElem? (i := 679) (by decide +kernel), by decide +kernel⟩
theorem tw_627 : (Jvm.Cond.constantLong "CharMachine" (136 : Nat) (10 : Int64)) ∈ BIG := List.mem_filter.mpr ⟨List.mem_of_getElem? (i := 681) (by decide +kernel), by decide +kernel⟩
theorem tw_628 : (Jvm.Cond.methodLink "CharMachine" (138 : Nat) ({ cls := "CharMachine$Store", name := "digit", desc := "(I)I" } : Jvm.MethodName)) ∈ BIG := List.mem_filter.mpr ⟨List.mem_of_getElem? (i := 682) (by decide +kernel), by decide +kernel⟩
theorem tw_629 : (Jvm.Cond.methodLink "CharMachine" (141 : Nat) ({ cls := "CharMachine$Store", name := "isMinus", desc := "(I)Z" } : Jvm.MethodName)) ∈ BIG := List.mem_filter.mpr ⟨List.mem_of_getElem? (i := 683) (by decide +kernel), by decide +kernel⟩
theorem tw_630 : (Jvm.Cond.classLink "CharMachineLaw" (56 : Nat) "CharMachineModel") ∈ BIG := List.mem_filter.mpr ⟨List.mem_of_getElem? (i := 684) (by decide +kernel), by decide +kernel⟩
theorem tw_631 : (Jvm.Cond.instantiable "CharMachineModel" (28 : Nat)) ∈ BIG := List.mem_filter.mpr ⟨List.mem_of_getElem? (i := 685) (by decide +kernel), by decide +kernel⟩
theorem tw_632 : (Jvm.Cond.methodLink "CharMachineLaw" (58 : Nat) ({ cls := "CharMachineModel", name := "<init>", desc := "(I)V" } : Jvm.MethodName)) ∈ BIG := List.mem_filter.mpr ⟨List.mem_of_getElem? (i := 686) (by decide +kernel), by decide +kernel⟩
theorem tw_633 : (Jvm.Cond.instanceMethod ({ cls := "CharMachineModel", name := "<init>", desc := "(I)V" } : Jvm.MethodName)) ∈ BIG := List.mem_filter.mpr ⟨List.mem_of_getElem? (i := 687) (by decide +kernel), by decide +kernel⟩
set_option maxRecDepth 100000 in
theorem tw_634 : (Jvm.Cond.code ({ cls := "CharMachineModel", name := "<init>", desc := "(I)V" } : Jvm.MethodName) prog_7_method_1_code (2 : Nat) (Option.none : Option Jvm.ClassFile.FieldType)) ∈ BIG := List.mem_filter.mpr ⟨List.mem_of_getElem? (i := 688) rfl, rfl⟩
theorem tw_635 : (Jvm.Cond.methodLink "CharMachineModel" (1 : Nat) ({ cls := "java/lang/Object", name := "<init>", desc := "()V" } : Jvm.MethodName)) ∈ BIG := List.mem_filter.mpr ⟨List.mem_of_getElem? (i := 689) (by decide +kernel), by decide +kernel⟩
theorem tw_636 : (Jvm.Cond.fieldLink "CharMachineModel" (43 : Nat) "CharMachineModel" "thrown" "I") ∈ BIG := List.mem_filter.mpr ⟨List.mem_of_getElem? (i := 690) (by decide +kernel), by decide +kernel⟩
theorem tw_637 : (Jvm.Cond.fieldLink "CharMachineModel" (39 : Nat) "CharMachineModel" "size" "I") ∈ BIG := List.mem_filter.mpr ⟨List.mem_of_getElem? (i := 691) (by decide +kernel), by decide +kernel⟩
theorem tw_638 : (Jvm.Cond.fieldLink "CharMachineModel" (7 : Nat) "CharMachineModel" "store" "[B") ∈ BIG := List.mem_filter.mpr ⟨List.mem_of_getElem? (i := 692) (by decide +kernel), by decide +kernel⟩
theorem tw_639 : (Jvm.Cond.fieldLink "CharMachineModel" (13 : Nat) "CharMachineModel" "mark" "[Z") ∈ BIG := List.mem_filter.mpr ⟨List.mem_of_getElem? (i := 693) (by decide +kernel), by decide +kernel⟩
theorem tw_640 : (Jvm.Cond.fieldLink "CharMachineModel" (65 : Nat) "CharMachineModel" "at" "I") ∈ BIG := List.mem_filter.mpr ⟨List.mem_of_getElem? (i := 694) (by decide +kernel), by decide +kernel⟩
theorem tw_641 : (Jvm.Cond.fieldLink "CharMachineModel" (85 : Nat) "CharMachineModel" "a" "I") ∈ BIG := List.mem_filter.mpr ⟨List.mem_of_getElem? (i := 695) (by decide +kernel), by decide +kernel⟩
theorem tw_642 : (Jvm.Cond.fieldLink "CharMachineModel" (75 : Nat) "CharMachineModel" "b" "I") ∈ BIG := List.mem_filter.mpr ⟨List.mem_of_getElem? (i := 696) (by decide +kernel), by decide +kernel⟩
theorem tw_643 : (Jvm.Cond.fieldLink "CharMachineModel" (113 : Nat) "CharMachineModel" "compared" "I") ∈ BIG := List.mem_filter.mpr ⟨List.mem_of_getElem? (i := 697) (by decide +kernel), by decide +kernel⟩
theorem tw_644 : (Jvm.Cond.fieldLink "CharMachineModel" (98 : Nat) "CharMachineModel" "overflow" "Z") ∈ BIG := List.mem_filter.mpr ⟨List.mem_of_getElem? (i := 698) (by decide +kernel), by decide +kernel⟩
theorem tw_645 : (Jvm.Cond.fieldLink "CharMachineModel" (131 : Nat) "CharMachineModel" "last" "Z") ∈ BIG := List.mem_filter.mpr ⟨List.mem_of_getElem? (i := 699) (by decide +kernel), by decide +kernel⟩
theorem tw_646 : (Jvm.Cond.fieldLink "CharMachineModel" (210 : Nat) "CharMachineModel" "steps" "I") ∈ BIG := List.mem_filter.mpr ⟨List.mem_of_getElem? (i := 700) (by decide +kernel), by decide +kernel⟩
theorem tw_647 : (Jvm.Cond.fieldLink "CharMachineModel" (207 : Nat) "CharMachineModel" "answer" "I") ∈ BIG := List.mem_filter.mpr ⟨List.mem_of_getElem? (i := 701) (by decide +kernel), by decide +kernel⟩
theorem tw_648 : (Jvm.Cond.fieldLink "CharMachineModel" (91 : Nat) "CharMachineModel" "op" "I") ∈ BIG := List.mem_filter.mpr ⟨List.mem_of_getElem? (i := 702) (by decide +kernel), by decide +kernel⟩
theorem tw_649 : (Jvm.Cond.fieldLink "CharMachineModel" (119 : Nat) "CharMachineModel" "length" "I") ∈ BIG := List.mem_filter.mpr ⟨List.mem_of_getElem? (i := 703) (by decide +kernel), by decide +kernel⟩
theorem tw_650 : (Jvm.Cond.fieldLink "CharMachineModel" (125 : Nat) "CharMachineModel" "from" "I") ∈ BIG := List.mem_filter.mpr ⟨List.mem_of_getElem? (i := 704) (by decide +kernel), by decide +kernel⟩
theorem tw_651 : (Jvm.Cond.fieldLink "CharMachineModel" (149 : Nat) "CharMachineModel" "hadA" "I") ∈ BIG := List.mem_filter.mpr ⟨List.mem_of_getElem? (i := 705) (by decide +kernel), by decide +kernel⟩
theorem tw_652 : (Jvm.Cond.fieldLink "CharMachineModel" (152 : Nat) "CharMachineModel" "hadB" "I") ∈ BIG := List.mem_filter.mpr ⟨List.mem_of_getElem? (i := 706) (by decide +kernel), by decide +kernel⟩
theorem tw_653 : (Jvm.Cond.fieldLink "CharMachineModel" (17 : Nat) "CharMachineModel" "making" "[B") ∈ BIG := List.mem_filter.mpr ⟨List.mem_of_getElem? (i := 707) (by decide +kernel), by decide +kernel⟩
theorem tw_654 : (Jvm.Cond.fieldLink "CharMachineModel" (59 : Nat) "CharMachineModel" "cards" "I") ∈ BIG := List.mem_filter.mpr ⟨List.mem_of_getElem? (i := 708) (by decide +kernel), by decide +kernel⟩
theorem tw_655 : (Jvm.Cond.fieldLink "CharMachineModel" (62 : Nat) "CharMachineModel" "read" "I") ∈ BIG := List.mem_filter.mpr ⟨List.mem_of_getElem? (i := 709) (by decide +kernel), by decide +kernel⟩
theorem tw_656 : (Jvm.Cond.fieldLink "CharMachineModel" (20 : Nat) "CharMachineModel" "card" "[B") ∈ BIG := List.mem_filter.mpr ⟨List.mem_of_getElem? (i := 710) (by decide +kernel), by decide +kernel⟩
theorem tw_657 : (Jvm.Cond.fieldLink "CharMachineModel" (134 : Nat) "CharMachineModel" "lines" "I") ∈ BIG := List.mem_filter.mpr ⟨List.mem_of_getElem? (i := 711) (by decide +kernel), by decide +kernel⟩
theorem tw_658 : (Jvm.Cond.fieldLink "CharMachineModel" (23 : Nat) "CharMachineModel" "line" "[B") ∈ BIG := List.mem_filter.mpr ⟨List.mem_of_getElem? (i := 712) (by decide +kernel), by decide +kernel⟩
theorem tw_659 : (Jvm.Cond.fieldLink "CharMachineModel" (137 : Nat) "CharMachineModel" "punched" "I") ∈ BIG := List.mem_filter.mpr ⟨List.mem_of_getElem? (i := 713) (by decide +kernel), by decide +kernel⟩
theorem tw_660 : (Jvm.Cond.fieldLink "CharMachineModel" (26 : Nat) "CharMachineModel" "punch" "[B") ∈ BIG := List.mem_filter.mpr ⟨List.mem_of_getElem? (i := 714) (by decide +kernel), by decide +kernel⟩
theorem tw_661 : (Jvm.Cond.fieldLink "CharMachineModel" (29 : Nat) "CharMachineModel" "one" "[I") ∈ BIG := List.mem_filter.mpr ⟨List.mem_of_getElem? (i := 715) (by decide +kernel), by decide +kernel⟩
theorem tw_662 : (Jvm.Cond.fieldLink "CharMachineModel" (33 : Nat) "CharMachineModel" "two" "[I") ∈ BIG := List.mem_filter.mpr ⟨List.mem_of_getElem? (i := 716) (by decide +kernel), by decide +kernel⟩
theorem tw_663 : (Jvm.Cond.fieldLink "CharMachineModel" (36 : Nat) "CharMachineModel" "copy" "[B") ∈ BIG := List.mem_filter.mpr ⟨List.mem_of_getElem? (i := 717) (by decide +kernel), by decide +kernel⟩
theorem tw_664 : (Jvm.Cond.lays "CharMachineModel" "CharMachineModel" "thrown" "I") ∈ BIG := List.mem_filter.mpr ⟨List.mem_of_getElem? (i := 718) (by decide +kernel), by decide +kernel⟩
theorem tw_666 : (Jvm.Cond.laysFinal "CharMachineModel" "CharMachineModel" "size" "I") ∈ BIG := List.mem_filter.mpr ⟨List.mem_of_getElem? (i := 720) (by decide +kernel), by decide +kernel⟩
theorem tw_668 : (Jvm.Cond.laysFinal "CharMachineModel" "CharMachineModel" "store" "[B") ∈ BIG := List.mem_filter.mpr ⟨List.mem_of_getElem? (i := 722) (by decide +kernel), by decide +kernel⟩
theorem tw_670 : (Jvm.Cond.laysFinal "CharMachineModel" "CharMachineModel" "mark" "[Z") ∈ BIG := List.mem_filter.mpr ⟨List.mem_of_getElem? (i := 724) (by decide +kernel), by decide +kernel⟩
theorem tw_672 : (Jvm.Cond.lays "CharMachineModel" "CharMachineModel" "at" "I") ∈ BIG := List.mem_filter.mpr ⟨List.mem_of_getElem? (i := 726) (by decide +kernel), by decide +kernel⟩
theorem tw_674 : (Jvm.Cond.lays "CharMachineModel" "CharMachineModel" "a" "I") ∈ BIG := List.mem_filter.mpr ⟨List.mem_of_getElem? (i := 728) (by decide +kernel), by decide +kernel⟩
theorem tw_676 : (Jvm.Cond.lays "CharMachineModel" "CharMachineModel" "b" "I") ∈ BIG := List.mem_filter.mpr ⟨List.mem_of_getElem? (i := 730) (by decide +kernel), by decide +kernel⟩
theorem tw_678 : (Jvm.Cond.lays "CharMachineModel" "CharMachineModel" "compared" "I") ∈ BIG := List.mem_filter.mpr ⟨List.mem_of_getElem? (i := 732) (by decide +kernel), by decide +kernel⟩
theorem tw_680 : (Jvm.Cond.lays "CharMachineModel" "CharMachineModel" "overflow" "Z") ∈ BIG := List.mem_filter.mpr ⟨List.mem_of_getElem? (i := 734) (by decide +kernel), by decide +kernel⟩
theorem tw_682 : (Jvm.Cond.lays "CharMachineModel" "CharMachineModel" "last" "Z") ∈ BIG := List.mem_filter.mpr ⟨List.mem_of_getElem? (i := 736) (by decide +kernel), by decide +kernel⟩
theorem tw_684 : (Jvm.Cond.lays "CharMachineModel" "CharMachineModel" "steps" "I") ∈ BIG := List.mem_filter.mpr ⟨List.mem_of_getElem? (i := 738) (by decide +kernel), by decide +kernel⟩
theorem tw_686 : (Jvm.Cond.lays "CharMachineModel" "CharMachineModel" "answer" "I") ∈ BIG := List.mem_filter.mpr ⟨List.mem_of_getElem? (i := 740) (by decide +kernel), by decide +kernel⟩
theorem tw_688 : (Jvm.Cond.lays "CharMachineModel" "CharMachineModel" "op" "I") ∈ BIG := List.mem_filter.mpr ⟨List.mem_of_getElem? (i := 742) (by decide +kernel), by decide +kernel⟩
theorem tw_690 : (Jvm.Cond.lays "CharMachineModel" "CharMachineModel" "length" "I") ∈ BIG := List.mem_filter.mpr ⟨List.mem_of_getElem? (i := 744) (by decide +kernel), by decide +kernel⟩
theorem tw_692 : (Jvm.Cond.lays "CharMachineModel" "CharMachineModel" "from" "I") ∈ BIG := List.mem_filter.mpr ⟨List.mem_of_getElem? (i := 746) (by decide +kernel), by decide +kernel⟩
theorem tw_694 : (Jvm.Cond.lays "CharMachineModel" "CharMachineModel" "hadA" "I") ∈ BIG := List.mem_filter.mpr ⟨List.mem_of_getElem? (i := 748) (by decide +kernel), by decide +kernel⟩
theorem tw_696 : (Jvm.Cond.lays "CharMachineModel" "CharMachineModel" "hadB" "I") ∈ BIG := List.mem_filter.mpr ⟨List.mem_of_getElem? (i := 750) (by decide +kernel), by decide +kernel⟩
theorem tw_698 : (Jvm.Cond.laysFinal "CharMachineModel" "CharMachineModel" "making" "[B") ∈ BIG := List.mem_filter.mpr ⟨List.mem_of_getElem? (i := 752) (by decide +kernel), by decide +kernel⟩
theorem tw_700 : (Jvm.Cond.lays "CharMachineModel" "CharMachineModel" "cards" "I") ∈ BIG := List.mem_filter.mpr ⟨List.mem_of_getElem? (i := 754) (by decide +kernel), by decide +kernel⟩
theorem tw_702 : (Jvm.Cond.lays "CharMachineModel" "CharMachineModel" "read" "I") ∈ BIG := List.mem_filter.mpr ⟨List.mem_of_getElem? (i := 756) (by decide +kernel), by decide +kernel⟩
theorem tw_704 : (Jvm.Cond.laysFinal "CharMachineModel" "CharMachineModel" "card" "[B") ∈ BIG := List.mem_filter.mpr ⟨List.mem_of_getElem? (i := 758) (by decide +kernel), by decide +kernel⟩
theorem tw_706 : (Jvm.Cond.lays "CharMachineModel" "CharMachineModel" "lines" "I") ∈ BIG := List.mem_filter.mpr ⟨List.mem_of_getElem? (i := 760) (by decide +kernel), by decide +kernel⟩
theorem tw_708 : (Jvm.Cond.laysFinal "CharMachineModel" "CharMachineModel" "line" "[B") ∈ BIG := List.mem_filter.mpr ⟨List.mem_of_getElem? (i := 762) (by decide +kernel), by decide +kernel⟩
theorem tw_710 : (Jvm.Cond.lays "CharMachineModel" "CharMachineModel" "punched" "I") ∈ BIG := List.mem_filter.mpr ⟨List.mem_of_getElem? (i := 764) (by decide +kernel), by decide +kernel⟩
theorem tw_712 : (Jvm.Cond.laysFinal "CharMachineModel" "CharMachineModel" "punch" "[B") ∈ BIG := List.mem_filter.mpr ⟨List.mem_of_getElem? (i := 766) (by decide +kernel), by decide +kernel⟩
theorem tw_714 : (Jvm.Cond.laysFinal "CharMachineModel" "CharMachineModel" "one" "[I") ∈ BIG := List.mem_filter.mpr ⟨List.mem_of_getElem? (i := 768) (by decide +kernel), by decide +kernel⟩
theorem tw_716 : (Jvm.Cond.laysFinal "CharMachineModel" "CharMachineModel" "two" "[I") ∈ BIG := List.mem_filter.mpr ⟨List.mem_of_getElem? (i := 770) (by decide +kernel), by decide +kernel⟩
theorem tw_718 : (Jvm.Cond.laysFinal "CharMachineModel" "CharMachineModel" "copy" "[B") ∈ BIG := List.mem_filter.mpr ⟨List.mem_of_getElem? (i := 772) (by decide +kernel), by decide +kernel⟩
theorem tw_721 : (Jvm.Cond.arrayClass Jvm.ClassFile.FieldType.byte) ∈ BIG := List.mem_filter.mpr ⟨List.mem_of_getElem? (i := 775) (by decide +kernel), by decide +kernel⟩
theorem tw_722 : (Jvm.Cond.arrayClass Jvm.ClassFile.FieldType.boolean) ∈ BIG := List.mem_filter.mpr ⟨List.mem_of_getElem? (i := 776) (by decide +kernel), by decide +kernel⟩
theorem tw_723 : (Jvm.Cond.methodLink "CharMachineLaw" (70 : Nat) ({ cls := "CharMachineModel", name := "thrown", desc := "()I" } : Jvm.MethodName)) ∈ BIG := List.mem_filter.mpr ⟨List.mem_of_getElem? (i := 777) (by decide +kernel), by decide +kernel⟩
theorem tw_724 : (Jvm.Cond.instanceMethod ({ cls := "CharMachineModel", name := "thrown", desc := "()I" } : Jvm.MethodName)) ∈ BIG := List.mem_filter.mpr ⟨List.mem_of_getElem? (i := 778) (by decide +kernel), by decide +kernel⟩
theorem tw_725 : (Jvm.Cond.selects "CharMachineModel" ({ cls := "CharMachineModel", name := "thrown", desc := "()I" } : Jvm.MethodName) ({ cls := "CharMachineModel", name := "thrown", desc := "()I" } : Jvm.MethodName)) ∈ BIG := List.mem_filter.mpr ⟨List.mem_of_getElem? (i := 779) (by decide +kernel), by decide +kernel⟩
set_option maxRecDepth 100000 in
theorem tw_726 : (Jvm.Cond.code ({ cls := "CharMachineModel", name := "thrown", desc := "()I" } : Jvm.MethodName) prog_7_method_2_code (1 : Nat) (Option.some Jvm.ClassFile.FieldType.int)) ∈ BIG := List.mem_filter.mpr ⟨List.mem_of_getElem? (i := 780) rfl, rfl⟩
theorem tw_727 : (Jvm.Cond.methodLink "CharMachineLaw" (63 : Nat) ({ cls := "CharMachineModel", name := "set", desc := "(IIZ)Z" } : Jvm.MethodName)) ∈ BIG := List.mem_filter.mpr ⟨List.mem_of_getElem? (i := 781) (by decide +kernel), by decide +kernel⟩
theorem tw_728 : (Jvm.Cond.instanceMethod ({ cls := "CharMachineModel", name := "set", desc := "(IIZ)Z" } : Jvm.MethodName)) ∈ BIG := List.mem_filter.mpr ⟨List.mem_of_getElem? (i := 782) (by decide +kernel), by decide +kernel⟩
theorem tw_729 : (Jvm.Cond.selects "CharMachineModel" ({ cls := "CharMachineModel", name := "set", desc := "(IIZ)Z" } : Jvm.MethodName) ({ cls := "CharMachineModel", name := "set", desc := "(IIZ)Z" } : Jvm.MethodName)) ∈ BIG := List.mem_filter.mpr ⟨List.mem_of_getElem? (i := 783) (by decide +kernel), by decide +kernel⟩
set_option maxRecDepth 100000 in
theorem tw_730 : (Jvm.Cond.code ({ cls := "CharMachineModel", name := "set", desc := "(IIZ)Z" } : Jvm.MethodName) prog_7_method_8_code (4 : Nat) (Option.some Jvm.ClassFile.FieldType.boolean)) ∈ BIG := List.mem_filter.mpr ⟨List.mem_of_getElem? (i := 784) rfl, rfl⟩
theorem tw_731 : (Jvm.Cond.methodLink "CharMachineModel" (46 : Nat) ({ cls := "CharMachineModel", name := "is", desc := "(I)Z" } : Jvm.MethodName)) ∈ BIG := List.mem_filter.mpr ⟨List.mem_of_getElem? (i := 785) (by decide +kernel), by decide +kernel⟩
theorem tw_733 : (Jvm.Cond.instanceMethod ({ cls := "CharMachineModel", name := "is", desc := "(I)Z" } : Jvm.MethodName)) ∈ BIG := List.mem_filter.mpr ⟨List.mem_of_getElem? (i := 787) (by decide +kernel), by decide +kernel⟩
set_option maxRecDepth 100000 in
theorem tw_734 : (Jvm.Cond.code ({ cls := "CharMachineModel", name := "is", desc := "(I)Z" } : Jvm.MethodName) prog_7_method_3_code (2 : Nat) (Option.some Jvm.ClassFile.FieldType.boolean)) ∈ BIG := List.mem_filter.mpr ⟨List.mem_of_getElem? (i := 788) rfl, rfl⟩
theorem tw_735 : (Jvm.Cond.methodLink "CharMachineModel" (50 : Nat) ({ cls := "CharMachineModel", name := "isCharacter", desc := "(I)Z" } : Jvm.MethodName)) ∈ BIG := List.mem_filter.mpr ⟨List.mem_of_getElem? (i := 789) (by decide +kernel), by decide +kernel⟩
theorem tw_736 : (Jvm.Cond.static ({ cls := "CharMachineModel", name := "isCharacter", desc := "(I)Z" } : Jvm.MethodName)) ∈ BIG := List.mem_filter.mpr ⟨List.mem_of_getElem? (i := 790) (by decide +kernel), by decide +kernel⟩
set_option maxRecDepth 100000 in
theorem tw_737 : (Jvm.Cond.code ({ cls := "CharMachineModel", name := "isCharacter", desc := "(I)Z" } : Jvm.MethodName) prog_7_method_4_code (1 : Nat) (Option.some Jvm.ClassFile.FieldType.boolean)) ∈ BIG := List.mem_filter.mpr ⟨List.mem_of_getElem? (i := 791) rfl, rfl⟩
theorem tw_738 : (Jvm.Cond.methodLink "CharMachineLaw" (69 : Nat) ({ cls := "CharMachineModel", name := "put", desc := "(IJI)I" } : Jvm.MethodName)) ∈ BIG := List.mem_filter.mpr ⟨List.mem_of_getElem? (i := 792) (by decide +kernel), by decide +kernel⟩
theorem tw_739 : (Jvm.Cond.instanceMethod ({ cls := "CharMachineModel", name := "put", desc := "(IJI)I" } : Jvm.MethodName)) ∈ BIG := List.mem_filter.mpr ⟨List.mem_of_getElem? (i := 793) (by decide +kernel), by decide +kernel⟩
theorem tw_740 : (Jvm.Cond.selects "CharMachineModel" ({ cls := "CharMachineModel", name := "put", desc := "(IJI)I" } : Jvm.MethodName) ({ cls := "CharMachineModel", name := "put", desc := "(IJI)I" } : Jvm.MethodName)) ∈ BIG := List.mem_filter.mpr ⟨List.mem_of_getElem? (i := 794) (by decide +kernel), by decide +kernel⟩
set_option maxRecDepth 100000 in
theorem tw_741 : (Jvm.Cond.code ({ cls := "CharMachineModel", name := "put", desc := "(IJI)I" } : Jvm.MethodName) prog_7_method_9_code (7 : Nat) (Option.some Jvm.ClassFile.FieldType.int)) ∈ BIG := List.mem_filter.mpr ⟨List.mem_of_getElem? (i := 795) rfl, rfl⟩
theorem tw_742 : (Jvm.Cond.constantLong "CharMachineModel" (53 : Nat) (255 : Int64)) ∈ BIG := List.mem_filter.mpr ⟨List.mem_of_getElem? (i := 796) (by decide +kernel), by decide +kernel⟩
theorem tw_743 : (Jvm.Cond.constantLong "CharMachineModel" (55 : Nat) (64 : Int64)) ∈ BIG := List.mem_filter.mpr ⟨List.mem_of_getElem? (i := 797) (by decide +kernel), by decide +kernel⟩
theorem tw_744 : (Jvm.Cond.constantLong "CharMachineModel" (57 : Nat) (63 : Int64)) ∈ BIG := List.mem_filter.mpr ⟨List.mem_of_getElem? (i := 798) (by decide +kernel), by decide +kernel⟩
theorem tw_745 : (Jvm.Cond.methodLink "CharMachineLaw" (77 : Nat) ({ cls := "CharMachineModel", name := "column", desc := "(II)Z" } : Jvm.MethodName)) ∈ BIG := List.mem_filter.mpr ⟨List.mem_of_getElem? (i := 799) (by decide +kernel), by decide +kernel⟩
theorem tw_746 : (Jvm.Cond.instanceMethod ({ cls := "CharMachineModel", name := "column", desc := "(II)Z" } : Jvm.MethodName)) ∈ BIG := List.mem_filter.mpr ⟨List.mem_of_getElem? (i := 800) (by decide +kernel), by decide +kernel⟩
theorem tw_747 : (Jvm.Cond.selects "CharMachineModel" ({ cls := "CharMachineModel", name := "column", desc := "(II)Z" } : Jvm.MethodName) ({ cls := "CharMachineModel", name := "column", desc := "(II)Z" } : Jvm.MethodName)) ∈ BIG := List.mem_filter.mpr ⟨List.mem_of_getElem? (i := 801) (by decide +kernel), by decide +kernel⟩
set_option maxRecDepth 100000 in
theorem tw_748 : (Jvm.Cond.code ({ cls := "CharMachineModel", name := "column", desc := "(II)Z" } : Jvm.MethodName) prog_7_method_10_code (3 : Nat) (Option.some Jvm.ClassFile.FieldType.boolean)) ∈ BIG := List.mem_filter.mpr ⟨List.mem_of_getElem? (i := 802) rfl, rfl⟩
theorem tw_749 : (Jvm.Cond.methodLink "CharMachineLaw" (81 : Nat) ({ cls := "CharMachineModel", name := "card", desc := "()I" } : Jvm.MethodName)) ∈ BIG := List.mem_filter.mpr ⟨List.mem_of_getElem? (i := 803) (by decide +kernel), by decide +kernel⟩
theorem tw_750 : (Jvm.Cond.instanceMethod ({ cls := "CharMachineModel", name := "card", desc := "()I" } : Jvm.MethodName)) ∈ BIG := List.mem_filter.mpr ⟨List.mem_of_getElem? (i := 804) (by decide +kernel), by decide +kernel⟩
theorem tw_751 : (Jvm.Cond.selects "CharMachineModel" ({ cls := "CharMachineModel", name := "card", desc := "()I" } : Jvm.MethodName) ({ cls := "CharMachineModel", name := "card", desc := "()I" } : Jvm.MethodName)) ∈ BIG := List.mem_filter.mpr ⟨List.mem_of_getElem? (i := 805) (by decide +kernel), by decide +kernel⟩
set_option maxRecDepth 100000 in
theorem tw_752 : (Jvm.Cond.code ({ cls := "CharMachineModel", name := "card", desc := "()I" } : Jvm.MethodName) prog_7_method_11_code (2 : Nat) (Option.some Jvm.ClassFile.FieldType.int)) ∈ BIG := List.mem_filter.mpr ⟨List.mem_of_getElem? (i := 806) rfl, rfl⟩
theorem tw_753 : (Jvm.Cond.methodLink "CharMachineLaw" (85 : Nat) ({ cls := "CharMachineModel", name := "start", desc := "(I)Z" } : Jvm.MethodName)) ∈ BIG := List.mem_filter.mpr ⟨List.mem_of_getElem? (i := 807) (by decide +kernel), by decide +kernel⟩
theorem tw_754 : (Jvm.Cond.instanceMethod ({ cls := "CharMachineModel", name := "start", desc := "(I)Z" } : Jvm.MethodName)) ∈ BIG := List.mem_filter.mpr ⟨List.mem_of_getElem? (i := 808) (by decide +kernel), by decide +kernel⟩
theorem tw_755 : (Jvm.Cond.selects "CharMachineModel" ({ cls := "CharMachineModel", name := "start", desc := "(I)Z" } : Jvm.MethodName) ({ cls := "CharMachineModel", name := "start", desc := "(I)Z" } : Jvm.MethodName)) ∈ BIG := List.mem_filter.mpr ⟨List.mem_of_getElem? (i := 809) (by decide +kernel), by decide +kernel⟩
set_option maxRecDepth 100000 in
theorem tw_756 : (Jvm.Cond.code ({ cls := "CharMachineModel", name := "start", desc := "(I)Z" } : Jvm.MethodName) prog_7_method_12_code (2 : Nat) (Option.some Jvm.ClassFile.FieldType.boolean)) ∈ BIG := List.mem_filter.mpr ⟨List.mem_of_getElem? (i := 810) rfl, rfl⟩
theorem tw_757 : (Jvm.Cond.methodLink "CharMachineLaw" (89 : Nat) ({ cls := "CharMachineModel", name := "run", desc := "(I)I" } : Jvm.MethodName)) ∈ BIG := List.mem_filter.mpr ⟨List.mem_of_getElem? (i := 811) (by decide +kernel), by decide +kernel⟩
theorem tw_758 : (Jvm.Cond.instanceMethod ({ cls := "CharMachineModel", name := "run", desc := "(I)I" } : Jvm.MethodName)) ∈ BIG := List.mem_filter.mpr ⟨List.mem_of_getElem? (i := 812) (by decide +kernel), by decide +kernel⟩
theorem tw_759 : (Jvm.Cond.selects "CharMachineModel" ({ cls := "CharMachineModel", name := "run", desc := "(I)I" } : Jvm.MethodName) ({ cls := "CharMachineModel", name := "run", desc := "(I)I" } : Jvm.MethodName)) ∈ BIG := List.mem_filter.mpr ⟨List.mem_of_getElem? (i := 813) (by decide +kernel), by decide +kernel⟩
set_option maxRecDepth 100000 in
theorem tw_760 : (Jvm.Cond.code ({ cls := "CharMachineModel", name := "run", desc := "(I)I" } : Jvm.MethodName) prog_7_method_44_code (3 : Nat) (Option.some Jvm.ClassFile.FieldType.int)) ∈ BIG := List.mem_filter.mpr ⟨List.mem_of_getElem? (i := 814) rfl, rfl⟩
theorem tw_761 : (Jvm.Cond.methodLink "CharMachineModel" (213 : Nat) ({ cls := "CharMachineModel", name := "fetch", desc := "()I" } : Jvm.MethodName)) ∈ BIG := List.mem_filter.mpr ⟨List.mem_of_getElem? (i := 815) (by decide +kernel), by decide +kernel⟩
theorem tw_763 : (Jvm.Cond.instanceMethod ({ cls := "CharMachineModel", name := "fetch", desc := "()I" } : Jvm.MethodName)) ∈ BIG := List.mem_filter.mpr ⟨List.mem_of_getElem? (i := 817) (by decide +kernel), by decide +kernel⟩
set_option maxRecDepth 100000 in
theorem tw_764 : (Jvm.Cond.code ({ cls := "CharMachineModel", name := "fetch", desc := "()I" } : Jvm.MethodName) prog_7_method_41_code (3 : Nat) (Option.some Jvm.ClassFile.FieldType.int)) ∈ BIG := List.mem_filter.mpr ⟨List.mem_of_getElem? (i := 818) rfl, rfl⟩
theorem tw_765 : (Jvm.Cond.methodLink "CharMachineModel" (158 : Nat) ({ cls := "CharMachineModel", name := "may", desc := "(II)Z" } : Jvm.MethodName)) ∈ BIG := List.mem_filter.mpr ⟨List.mem_of_getElem? (i := 819) (by decide +kernel), by decide +kernel⟩
theorem tw_766 : (Jvm.Cond.static ({ cls := "CharMachineModel", name := "may", desc := "(II)Z" } : Jvm.MethodName)) ∈ BIG := List.mem_filter.mpr ⟨List.mem_of_getElem? (i := 820) (by decide +kernel), by decide +kernel⟩
set_option maxRecDepth 100000 in
theorem tw_767 : (Jvm.Cond.code ({ cls := "CharMachineModel", name := "may", desc := "(II)Z" } : Jvm.MethodName) prog_7_method_40_code (3 : Nat) (Option.some Jvm.ClassFile.FieldType.boolean)) ∈ BIG := List.mem_filter.mpr ⟨List.mem_of_getElem? (i := 821) rfl, rfl⟩
theorem tw_768 : (Jvm.Cond.methodLink "CharMachineModel" (155 : Nat) ({ cls := "CharMachineModel", name := "isArithmetic", desc := "(I)Z" } : Jvm.MethodName)) ∈ BIG := List.mem_filter.mpr ⟨List.mem_of_getElem? (i := 822) (by decide +kernel), by decide +kernel⟩
theorem tw_769 : (Jvm.Cond.static ({ cls := "CharMachineModel", name := "isArithmetic", desc := "(I)Z" } : Jvm.MethodName)) ∈ BIG := List.mem_filter.mpr ⟨List.mem_of_getElem? (i := 823) (by decide +kernel), by decide +kernel⟩
set_option maxRecDepth 100000 in
theorem tw_770 : (Jvm.Cond.code ({ cls := "CharMachineModel", name := "isArithmetic", desc := "(I)Z" } : Jvm.MethodName) prog_7_method_39_code (1 : Nat) (Option.some Jvm.ClassFile.FieldType.boolean)) ∈ BIG := List.mem_filter.mpr ⟨List.mem_of_getElem? (i := 824) rfl, rfl⟩
theorem tw_771 : (Jvm.Cond.methodLink "CharMachineModel" (162 : Nat) ({ cls := "CharMachineModel", name := "address", desc := "(I)I" } : Jvm.MethodName)) ∈ BIG := List.mem_filter.mpr ⟨List.mem_of_getElem? (i := 825) (by decide +kernel), by decide +kernel⟩
theorem tw_773 : (Jvm.Cond.instanceMethod ({ cls := "CharMachineModel", name := "address", desc := "(I)I" } : Jvm.MethodName)) ∈ BIG := List.mem_filter.mpr ⟨List.mem_of_getElem? (i := 827) (by decide +kernel), by decide +kernel⟩
set_option maxRecDepth 100000 in
theorem tw_774 : (Jvm.Cond.code ({ cls := "CharMachineModel", name := "address", desc := "(I)I" } : Jvm.MethodName) prog_7_method_38_code (5 : Nat) (Option.some Jvm.ClassFile.FieldType.int)) ∈ BIG := List.mem_filter.mpr ⟨List.mem_of_getElem? (i := 828) rfl, rfl⟩
theorem tw_775 : (Jvm.Cond.methodLink "CharMachineModel" (72 : Nat) ({ cls := "CharMachineModel", name := "value", desc := "(I)I" } : Jvm.MethodName)) ∈ BIG := List.mem_filter.mpr ⟨List.mem_of_getElem? (i := 829) (by decide +kernel), by decide +kernel⟩
theorem tw_776 : (Jvm.Cond.static ({ cls := "CharMachineModel", name := "value", desc := "(I)I" } : Jvm.MethodName)) ∈ BIG := List.mem_filter.mpr ⟨List.mem_of_getElem? (i := 830) (by decide +kernel), by decide +kernel⟩
set_option maxRecDepth 100000 in
theorem tw_777 : (Jvm.Cond.code ({ cls := "CharMachineModel", name := "value", desc := "(I)I" } : Jvm.MethodName) prog_7_method_6_code (1 : Nat) (Option.some Jvm.ClassFile.FieldType.int)) ∈ BIG := List.mem_filter.mpr ⟨List.mem_of_getElem? (i := 831) rfl, rfl⟩
theorem tw_778 : (Jvm.Cond.methodLink "CharMachineModel" (216 : Nat) ({ cls := "CharMachineModel", name := "execute", desc := "()I" } : Jvm.MethodName)) ∈ BIG := List.mem_filter.mpr ⟨List.mem_of_getElem? (i := 832) (by decide +kernel), by decide +kernel⟩
theorem tw_780 : (Jvm.Cond.instanceMethod ({ cls := "CharMachineModel", name := "execute", desc := "()I" } : Jvm.MethodName)) ∈ BIG := List.mem_filter.mpr ⟨List.mem_of_getElem? (i := 834) (by decide +kernel), by decide +kernel⟩
set_option maxRecDepth 100000 in
theorem tw_781 : (Jvm.Cond.code ({ cls := "CharMachineModel", name := "execute", desc := "()I" } : Jvm.MethodName) prog_7_method_43_code (1 : Nat) (Option.some Jvm.ClassFile.FieldType.int)) ∈ BIG := List.mem_filter.mpr ⟨List.mem_of_getElem? (i := 835) rfl, rfl⟩
theorem tw_782 : (Jvm.Cond.methodLink "CharMachineModel" (165 : Nat) ({ cls := "CharMachineModel", name := "add", desc := "()I" } : Jvm.MethodName)) ∈ BIG := List.mem_filter.mpr ⟨List.mem_of_getElem? (i := 836) (by decide +kernel), by decide +kernel⟩
theorem tw_784 : (Jvm.Cond.instanceMethod ({ cls := "CharMachineModel", name := "add", desc := "()I" } : Jvm.MethodName)) ∈ BIG := List.mem_filter.mpr ⟨List.mem_of_getElem? (i := 838) (by decide +kernel), by decide +kernel⟩
set_option maxRecDepth 100000 in
theorem tw_785 : (Jvm.Cond.code ({ cls := "CharMachineModel", name := "add", desc := "()I" } : Jvm.MethodName) prog_7_method_18_code (10 : Nat) (Option.some Jvm.ClassFile.FieldType.int)) ∈ BIG := List.mem_filter.mpr ⟨List.mem_of_getElem? (i := 839) rfl, rfl⟩
theorem tw_786 : (Jvm.Cond.methodLink "CharMachineModel" (81 : Nat) ({ cls := "CharMachineModel", name := "field", desc := "(II)I" } : Jvm.MethodName)) ∈ BIG := List.mem_filter.mpr ⟨List.mem_of_getElem? (i := 840) (by decide +kernel), by decide +kernel⟩
theorem tw_788 : (Jvm.Cond.instanceMethod ({ cls := "CharMachineModel", name := "field", desc := "(II)I" } : Jvm.MethodName)) ∈ BIG := List.mem_filter.mpr ⟨List.mem_of_getElem? (i := 842) (by decide +kernel), by decide +kernel⟩
set_option maxRecDepth 100000 in
theorem tw_789 : (Jvm.Cond.code ({ cls := "CharMachineModel", name := "field", desc := "(II)I" } : Jvm.MethodName) prog_7_method_13_code (5 : Nat) (Option.some Jvm.ClassFile.FieldType.int)) ∈ BIG := List.mem_filter.mpr ⟨List.mem_of_getElem? (i := 843) rfl, rfl⟩
theorem tw_790 : (Jvm.Cond.methodLink "CharMachineModel" (88 : Nat) ({ cls := "CharMachineModel", name := "isMinus", desc := "(I)Z" } : Jvm.MethodName)) ∈ BIG := List.mem_filter.mpr ⟨List.mem_of_getElem? (i := 844) (by decide +kernel), by decide +kernel⟩
theorem tw_791 : (Jvm.Cond.static ({ cls := "CharMachineModel", name := "isMinus", desc := "(I)Z" } : Jvm.MethodName)) ∈ BIG := List.mem_filter.mpr ⟨List.mem_of_getElem? (i := 845) (by decide +kernel), by decide +kernel⟩
set_option maxRecDepth 100000 in
theorem tw_792 : (Jvm.Cond.code ({ cls := "CharMachineModel", name := "isMinus", desc := "(I)Z" } : Jvm.MethodName) prog_7_method_14_code (1 : Nat) (Option.some Jvm.ClassFile.FieldType.boolean)) ∈ BIG := List.mem_filter.mpr ⟨List.mem_of_getElem? (i := 846) rfl, rfl⟩
theorem tw_793 : (Jvm.Cond.methodLink "CharMachineModel" (68 : Nat) ({ cls := "CharMachineModel", name := "zone", desc := "(I)I" } : Jvm.MethodName)) ∈ BIG := List.mem_filter.mpr ⟨List.mem_of_getElem? (i := 847) (by decide +kernel), by decide +kernel⟩
theorem tw_794 : (Jvm.Cond.static ({ cls := "CharMachineModel", name := "zone", desc := "(I)I" } : Jvm.MethodName)) ∈ BIG := List.mem_filter.mpr ⟨List.mem_of_getElem? (i := 848) (by decide +kernel), by decide +kernel⟩
set_option maxRecDepth 100000 in
theorem tw_795 : (Jvm.Cond.code ({ cls := "CharMachineModel", name := "zone", desc := "(I)I" } : Jvm.MethodName) prog_7_method_5_code (1 : Nat) (Option.some Jvm.ClassFile.FieldType.int)) ∈ BIG := List.mem_filter.mpr ⟨List.mem_of_getElem? (i := 849) rfl, rfl⟩
theorem tw_796 : (Jvm.Cond.methodLink "CharMachineModel" (94 : Nat) ({ cls := "CharMachineModel", name := "readDigits", desc := "([IIII)V" } : Jvm.MethodName)) ∈ BIG := List.mem_filter.mpr ⟨List.mem_of_getElem? (i := 850) (by decide +kernel), by decide +kernel⟩
theorem tw_798 : (Jvm.Cond.instanceMethod ({ cls := "CharMachineModel", name := "readDigits", desc := "([IIII)V" } : Jvm.MethodName)) ∈ BIG := List.mem_filter.mpr ⟨List.mem_of_getElem? (i := 852) (by decide +kernel), by decide +kernel⟩
set_option maxRecDepth 100000 in
theorem tw_799 : (Jvm.Cond.code ({ cls := "CharMachineModel", name := "readDigits", desc := "([IIII)V" } : Jvm.MethodName) prog_7_method_15_code (6 : Nat) (Option.none : Option Jvm.ClassFile.FieldType)) ∈ BIG := List.mem_filter.mpr ⟨List.mem_of_getElem? (i := 853) rfl, rfl⟩
theorem tw_800 : (Jvm.Cond.methodLink "CharMachineModel" (102 : Nat) ({ cls := "CharMachineModel", name := "writeDigits", desc := "(II)V" } : Jvm.MethodName)) ∈ BIG := List.mem_filter.mpr ⟨List.mem_of_getElem? (i := 854) (by decide +kernel), by decide +kernel⟩
theorem tw_802 : (Jvm.Cond.instanceMethod ({ cls := "CharMachineModel", name := "writeDigits", desc := "(II)V" } : Jvm.MethodName)) ∈ BIG := List.mem_filter.mpr ⟨List.mem_of_getElem? (i := 856) (by decide +kernel), by decide +kernel⟩
set_option maxRecDepth 100000 in
theorem tw_803 : (Jvm.Cond.code ({ cls := "CharMachineModel", name := "writeDigits", desc := "(II)V" } : Jvm.MethodName) prog_7_method_16_code (4 : Nat) (Option.none : Option Jvm.ClassFile.FieldType)) ∈ BIG := List.mem_filter.mpr ⟨List.mem_of_getElem? (i := 857) rfl, rfl⟩
theorem tw_804 : (Jvm.Cond.methodLink "CharMachineModel" (78 : Nat) ({ cls := "CharMachineModel", name := "digit", desc := "(I)I" } : Jvm.MethodName)) ∈ BIG := List.mem_filter.mpr ⟨List.mem_of_getElem? (i := 858) (by decide +kernel), by decide +kernel⟩
theorem tw_805 : (Jvm.Cond.static ({ cls := "CharMachineModel", name := "digit", desc := "(I)I" } : Jvm.MethodName)) ∈ BIG := List.mem_filter.mpr ⟨List.mem_of_getElem? (i := 859) (by decide +kernel), by decide +kernel⟩
set_option maxRecDepth 100000 in
theorem tw_806 : (Jvm.Cond.code ({ cls := "CharMachineModel", name := "digit", desc := "(I)I" } : Jvm.MethodName) prog_7_method_7_code (1 : Nat) (Option.some Jvm.ClassFile.FieldType.int)) ∈ BIG := List.mem_filter.mpr ⟨List.mem_of_getElem? (i := 860) rfl, rfl⟩
theorem tw_807 : (Jvm.Cond.methodLink "CharMachineModel" (106 : Nat) ({ cls := "CharMachineModel", name := "isMore", desc := "(I)Z" } : Jvm.MethodName)) ∈ BIG := List.mem_filter.mpr ⟨List.mem_of_getElem? (i := 861) (by decide +kernel), by decide +kernel⟩
theorem tw_809 : (Jvm.Cond.instanceMethod ({ cls := "CharMachineModel", name := "isMore", desc := "(I)Z" } : Jvm.MethodName)) ∈ BIG := List.mem_filter.mpr ⟨List.mem_of_getElem? (i := 863) (by decide +kernel), by decide +kernel⟩
set_option maxRecDepth 100000 in
theorem tw_810 : (Jvm.Cond.code ({ cls := "CharMachineModel", name := "isMore", desc := "(I)Z" } : Jvm.MethodName) prog_7_method_17_code (4 : Nat) (Option.some Jvm.ClassFile.FieldType.boolean)) ∈ BIG := List.mem_filter.mpr ⟨List.mem_of_getElem? (i := 864) rfl, rfl⟩
theorem tw_811 : (Jvm.Cond.methodLink "CharMachineModel" (168 : Nat) ({ cls := "CharMachineModel", name := "reset", desc := "()I" } : Jvm.MethodName)) ∈ BIG := List.mem_filter.mpr ⟨List.mem_of_getElem? (i := 865) (by decide +kernel), by decide +kernel⟩
theorem tw_813 : (Jvm.Cond.instanceMethod ({ cls := "CharMachineModel", name := "reset", desc := "()I" } : Jvm.MethodName)) ∈ BIG := List.mem_filter.mpr ⟨List.mem_of_getElem? (i := 867) (by decide +kernel), by decide +kernel⟩
set_option maxRecDepth 100000 in
theorem tw_814 : (Jvm.Cond.code ({ cls := "CharMachineModel", name := "reset", desc := "()I" } : Jvm.MethodName) prog_7_method_19_code (4 : Nat) (Option.some Jvm.ClassFile.FieldType.int)) ∈ BIG := List.mem_filter.mpr ⟨List.mem_of_getElem? (i := 868) rfl, rfl⟩
theorem tw_815 : (Jvm.Cond.methodLink "CharMachineModel" (171 : Nat) ({ cls := "CharMachineModel", name := "move", desc := "()I" } : Jvm.MethodName)) ∈ BIG := List.mem_filter.mpr ⟨List.mem_of_getElem? (i := 869) (by decide +kernel), by decide +kernel⟩
theorem tw_817 : (Jvm.Cond.instanceMethod ({ cls := "CharMachineModel", name := "move", desc := "()I" } : Jvm.MethodName)) ∈ BIG := List.mem_filter.mpr ⟨List.mem_of_getElem? (i := 871) (by decide +kernel), by decide +kernel⟩
set_option maxRecDepth 100000 in
theorem tw_818 : (Jvm.Cond.code ({ cls := "CharMachineModel", name := "move", desc := "()I" } : Jvm.MethodName) prog_7_method_21_code (3 : Nat) (Option.some Jvm.ClassFile.FieldType.int)) ∈ BIG := List.mem_filter.mpr ⟨List.mem_of_getElem? (i := 872) rfl, rfl⟩
theorem tw_819 : (Jvm.Cond.methodLink "CharMachineModel" (109 : Nat) ({ cls := "CharMachineModel", name := "both", desc := "()I" } : Jvm.MethodName)) ∈ BIG := List.mem_filter.mpr ⟨List.mem_of_getElem? (i := 873) (by decide +kernel), by decide +kernel⟩
theorem tw_821 : (Jvm.Cond.instanceMethod ({ cls := "CharMachineModel", name := "both", desc := "()I" } : Jvm.MethodName)) ∈ BIG := List.mem_filter.mpr ⟨List.mem_of_getElem? (i := 875) (by decide +kernel), by decide +kernel⟩
set_option maxRecDepth 100000 in
theorem tw_822 : (Jvm.Cond.code ({ cls := "CharMachineModel", name := "both", desc := "()I" } : Jvm.MethodName) prog_7_method_20_code (3 : Nat) (Option.some Jvm.ClassFile.FieldType.int)) ∈ BIG := List.mem_filter.mpr ⟨List.mem_of_getElem? (i := 876) rfl, rfl⟩
theorem tw_823 : (Jvm.Cond.methodLink "CharMachineModel" (174 : Nat) ({ cls := "CharMachineModel", name := "load", desc := "()I" } : Jvm.MethodName)) ∈ BIG := List.mem_filter.mpr ⟨List.mem_of_getElem? (i := 877) (by decide +kernel), by decide +kernel⟩
theorem tw_825 : (Jvm.Cond.instanceMethod ({ cls := "CharMachineModel", name := "load", desc := "()I" } : Jvm.MethodName)) ∈ BIG := List.mem_filter.mpr ⟨List.mem_of_getElem? (i := 879) (by decide +kernel), by decide +kernel⟩
set_option maxRecDepth 100000 in
theorem tw_826 : (Jvm.Cond.code ({ cls := "CharMachineModel", name := "load", desc := "()I" } : Jvm.MethodName) prog_7_method_22_code (3 : Nat) (Option.some Jvm.ClassFile.FieldType.int)) ∈ BIG := List.mem_filter.mpr ⟨List.mem_of_getElem? (i := 880) rfl, rfl⟩
theorem tw_827 : (Jvm.Cond.methodLink "CharMachineModel" (177 : Nat) ({ cls := "CharMachineModel", name := "part", desc := "()I" } : Jvm.MethodName)) ∈ BIG := List.mem_filter.mpr ⟨List.mem_of_getElem? (i := 881) (by decide +kernel), by decide +kernel⟩
theorem tw_829 : (Jvm.Cond.instanceMethod ({ cls := "CharMachineModel", name := "part", desc := "()I" } : Jvm.MethodName)) ∈ BIG := List.mem_filter.mpr ⟨List.mem_of_getElem? (i := 883) (by decide +kernel), by decide +kernel⟩
set_option maxRecDepth 100000 in
theorem tw_830 : (Jvm.Cond.code ({ cls := "CharMachineModel", name := "part", desc := "()I" } : Jvm.MethodName) prog_7_method_23_code (2 : Nat) (Option.some Jvm.ClassFile.FieldType.int)) ∈ BIG := List.mem_filter.mpr ⟨List.mem_of_getElem? (i := 884) rfl, rfl⟩
theorem tw_831 : (Jvm.Cond.methodLink "CharMachineModel" (180 : Nat) ({ cls := "CharMachineModel", name := "compare", desc := "()I" } : Jvm.MethodName)) ∈ BIG := List.mem_filter.mpr ⟨List.mem_of_getElem? (i := 885) (by decide +kernel), by decide +kernel⟩
theorem tw_833 : (Jvm.Cond.instanceMethod ({ cls := "CharMachineModel", name := "compare", desc := "()I" } : Jvm.MethodName)) ∈ BIG := List.mem_filter.mpr ⟨List.mem_of_getElem? (i := 887) (by decide +kernel), by decide +kernel⟩
set_option maxRecDepth 100000 in
theorem tw_834 : (Jvm.Cond.code ({ cls := "CharMachineModel", name := "compare", desc := "()I" } : Jvm.MethodName) prog_7_method_25_code (5 : Nat) (Option.some Jvm.ClassFile.FieldType.int)) ∈ BIG := List.mem_filter.mpr ⟨List.mem_of_getElem? (i := 888) rfl, rfl⟩
theorem tw_835 : (Jvm.Cond.methodLink "CharMachineModel" (116 : Nat) ({ cls := "CharMachineModel", name := "rank", desc := "(I)I" } : Jvm.MethodName)) ∈ BIG := List.mem_filter.mpr ⟨List.mem_of_getElem? (i := 889) (by decide +kernel), by decide +kernel⟩
theorem tw_836 : (Jvm.Cond.static ({ cls := "CharMachineModel", name := "rank", desc := "(I)I" } : Jvm.MethodName)) ∈ BIG := List.mem_filter.mpr ⟨List.mem_of_getElem? (i := 890) (by decide +kernel), by decide +kernel⟩
set_option maxRecDepth 100000 in
theorem tw_837 : (Jvm.Cond.code ({ cls := "CharMachineModel", name := "rank", desc := "(I)I" } : Jvm.MethodName) prog_7_method_24_code (4 : Nat) (Option.some Jvm.ClassFile.FieldType.int)) ∈ BIG := List.mem_filter.mpr ⟨List.mem_of_getElem? (i := 891) rfl, rfl⟩
theorem tw_838 : (Jvm.Cond.methodLink "CharMachineModel" (183 : Nat) ({ cls := "CharMachineModel", name := "marks", desc := "()I" } : Jvm.MethodName)) ∈ BIG := List.mem_filter.mpr ⟨List.mem_of_getElem? (i := 892) (by decide +kernel), by decide +kernel⟩
theorem tw_840 : (Jvm.Cond.instanceMethod ({ cls := "CharMachineModel", name := "marks", desc := "()I" } : Jvm.MethodName)) ∈ BIG := List.mem_filter.mpr ⟨List.mem_of_getElem? (i := 894) (by decide +kernel), by decide +kernel⟩
set_option maxRecDepth 100000 in
theorem tw_841 : (Jvm.Cond.code ({ cls := "CharMachineModel", name := "marks", desc := "()I" } : Jvm.MethodName) prog_7_method_26_code (1 : Nat) (Option.some Jvm.ClassFile.FieldType.int)) ∈ BIG := List.mem_filter.mpr ⟨List.mem_of_getElem? (i := 895) rfl, rfl⟩
theorem tw_842 : (Jvm.Cond.methodLink "CharMachineModel" (186 : Nat) ({ cls := "CharMachineModel", name := "clear", desc := "()I" } : Jvm.MethodName)) ∈ BIG := List.mem_filter.mpr ⟨List.mem_of_getElem? (i := 896) (by decide +kernel), by decide +kernel⟩
theorem tw_844 : (Jvm.Cond.instanceMethod ({ cls := "CharMachineModel", name := "clear", desc := "()I" } : Jvm.MethodName)) ∈ BIG := List.mem_filter.mpr ⟨List.mem_of_getElem? (i := 898) (by decide +kernel), by decide +kernel⟩
set_option maxRecDepth 100000 in
theorem tw_845 : (Jvm.Cond.code ({ cls := "CharMachineModel", name := "clear", desc := "()I" } : Jvm.MethodName) prog_7_method_28_code (3 : Nat) (Option.some Jvm.ClassFile.FieldType.int)) ∈ BIG := List.mem_filter.mpr ⟨List.mem_of_getElem? (i := 899) rfl, rfl⟩
theorem tw_846 : (Jvm.Cond.methodLink "CharMachineModel" (122 : Nat) ({ cls := "CharMachineModel", name := "go", desc := "()V" } : Jvm.MethodName)) ∈ BIG := List.mem_filter.mpr ⟨List.mem_of_getElem? (i := 900) (by decide +kernel), by decide +kernel⟩
theorem tw_848 : (Jvm.Cond.instanceMethod ({ cls := "CharMachineModel", name := "go", desc := "()V" } : Jvm.MethodName)) ∈ BIG := List.mem_filter.mpr ⟨List.mem_of_getElem? (i := 902) (by decide +kernel), by decide +kernel⟩
set_option maxRecDepth 100000 in
theorem tw_849 : (Jvm.Cond.code ({ cls := "CharMachineModel", name := "go", desc := "()V" } : Jvm.MethodName) prog_7_method_27_code (2 : Nat) (Option.none : Option Jvm.ClassFile.FieldType)) ∈ BIG := List.mem_filter.mpr ⟨List.mem_of_getElem? (i := 903) rfl, rfl⟩
theorem tw_850 : (Jvm.Cond.methodLink "CharMachineModel" (189 : Nat) ({ cls := "CharMachineModel", name := "edit", desc := "()I" } : Jvm.MethodName)) ∈ BIG := List.mem_filter.mpr ⟨List.mem_of_getElem? (i := 904) (by decide +kernel), by decide +kernel⟩
theorem tw_852 : (Jvm.Cond.instanceMethod ({ cls := "CharMachineModel", name := "edit", desc := "()I" } : Jvm.MethodName)) ∈ BIG := List.mem_filter.mpr ⟨List.mem_of_getElem? (i := 906) (by decide +kernel), by decide +kernel⟩
set_option maxRecDepth 100000 in
theorem tw_853 : (Jvm.Cond.code ({ cls := "CharMachineModel", name := "edit", desc := "()I" } : Jvm.MethodName) prog_7_method_29_code (4 : Nat) (Option.some Jvm.ClassFile.FieldType.int)) ∈ BIG := List.mem_filter.mpr ⟨List.mem_of_getElem? (i := 907) rfl, rfl⟩
theorem tw_854 : (Jvm.Cond.methodLink "CharMachineModel" (192 : Nat) ({ cls := "CharMachineModel", name := "branch", desc := "()I" } : Jvm.MethodName)) ∈ BIG := List.mem_filter.mpr ⟨List.mem_of_getElem? (i := 908) (by decide +kernel), by decide +kernel⟩
theorem tw_856 : (Jvm.Cond.instanceMethod ({ cls := "CharMachineModel", name := "branch", desc := "()I" } : Jvm.MethodName)) ∈ BIG := List.mem_filter.mpr ⟨List.mem_of_getElem? (i := 910) (by decide +kernel), by decide +kernel⟩
set_option maxRecDepth 100000 in
theorem tw_857 : (Jvm.Cond.code ({ cls := "CharMachineModel", name := "branch", desc := "()I" } : Jvm.MethodName) prog_7_method_31_code (3 : Nat) (Option.some Jvm.ClassFile.FieldType.int)) ∈ BIG := List.mem_filter.mpr ⟨List.mem_of_getElem? (i := 911) rfl, rfl⟩
theorem tw_858 : (Jvm.Cond.methodLink "CharMachineModel" (128 : Nat) ({ cls := "CharMachineModel", name := "modifier", desc := "()I" } : Jvm.MethodName)) ∈ BIG := List.mem_filter.mpr ⟨List.mem_of_getElem? (i := 912) (by decide +kernel), by decide +kernel⟩
theorem tw_860 : (Jvm.Cond.instanceMethod ({ cls := "CharMachineModel", name := "modifier", desc := "()I" } : Jvm.MethodName)) ∈ BIG := List.mem_filter.mpr ⟨List.mem_of_getElem? (i := 914) (by decide +kernel), by decide +kernel⟩
set_option maxRecDepth 100000 in
theorem tw_861 : (Jvm.Cond.code ({ cls := "CharMachineModel", name := "modifier", desc := "()I" } : Jvm.MethodName) prog_7_method_30_code (1 : Nat) (Option.some Jvm.ClassFile.FieldType.int)) ∈ BIG := List.mem_filter.mpr ⟨List.mem_of_getElem? (i := 915) rfl, rfl⟩
theorem tw_862 : (Jvm.Cond.methodLink "CharMachineModel" (195 : Nat) ({ cls := "CharMachineModel", name := "branchMark", desc := "()I" } : Jvm.MethodName)) ∈ BIG := List.mem_filter.mpr ⟨List.mem_of_getElem? (i := 916) (by decide +kernel), by decide +kernel⟩
theorem tw_864 : (Jvm.Cond.instanceMethod ({ cls := "CharMachineModel", name := "branchMark", desc := "()I" } : Jvm.MethodName)) ∈ BIG := List.mem_filter.mpr ⟨List.mem_of_getElem? (i := 918) (by decide +kernel), by decide +kernel⟩
set_option maxRecDepth 100000 in
theorem tw_865 : (Jvm.Cond.code ({ cls := "CharMachineModel", name := "branchMark", desc := "()I" } : Jvm.MethodName) prog_7_method_32_code (5 : Nat) (Option.some Jvm.ClassFile.FieldType.int)) ∈ BIG := List.mem_filter.mpr ⟨List.mem_of_getElem? (i := 919) rfl, rfl⟩
theorem tw_866 : (Jvm.Cond.methodLink "CharMachineModel" (198 : Nat) ({ cls := "CharMachineModel", name := "device", desc := "()I" } : Jvm.MethodName)) ∈ BIG := List.mem_filter.mpr ⟨List.mem_of_getElem? (i := 920) (by decide +kernel), by decide +kernel⟩
theorem tw_868 : (Jvm.Cond.instanceMethod ({ cls := "CharMachineModel", name := "device", desc := "()I" } : Jvm.MethodName)) ∈ BIG := List.mem_filter.mpr ⟨List.mem_of_getElem? (i := 922) (by decide +kernel), by decide +kernel⟩
set_option maxRecDepth 100000 in
theorem tw_869 : (Jvm.Cond.code ({ cls := "CharMachineModel", name := "device", desc := "()I" } : Jvm.MethodName) prog_7_method_36_code (2 : Nat) (Option.some Jvm.ClassFile.FieldType.int)) ∈ BIG := List.mem_filter.mpr ⟨List.mem_of_getElem? (i := 923) rfl, rfl⟩
theorem tw_870 : (Jvm.Cond.methodLink "CharMachineModel" (140 : Nat) ({ cls := "CharMachineModel", name := "readCard", desc := "()I" } : Jvm.MethodName)) ∈ BIG := List.mem_filter.mpr ⟨List.mem_of_getElem? (i := 924) (by decide +kernel), by decide +kernel⟩
theorem tw_872 : (Jvm.Cond.instanceMethod ({ cls := "CharMachineModel", name := "readCard", desc := "()I" } : Jvm.MethodName)) ∈ BIG := List.mem_filter.mpr ⟨List.mem_of_getElem? (i := 926) (by decide +kernel), by decide +kernel⟩
set_option maxRecDepth 100000 in
theorem tw_873 : (Jvm.Cond.code ({ cls := "CharMachineModel", name := "readCard", desc := "()I" } : Jvm.MethodName) prog_7_method_33_code (2 : Nat) (Option.some Jvm.ClassFile.FieldType.int)) ∈ BIG := List.mem_filter.mpr ⟨List.mem_of_getElem? (i := 927) rfl, rfl⟩
theorem tw_874 : (Jvm.Cond.methodLink "CharMachineModel" (143 : Nat) ({ cls := "CharMachineModel", name := "print", desc := "()I" } : Jvm.MethodName)) ∈ BIG := List.mem_filter.mpr ⟨List.mem_of_getElem? (i := 928) (by decide +kernel), by decide +kernel⟩
theorem tw_876 : (Jvm.Cond.instanceMethod ({ cls := "CharMachineModel", name := "print", desc := "()I" } : Jvm.MethodName)) ∈ BIG := List.mem_filter.mpr ⟨List.mem_of_getElem? (i := 930) (by decide +kernel), by decide +kernel⟩
set_option maxRecDepth 100000 in
theorem tw_877 : (Jvm.Cond.code ({ cls := "CharMachineModel", name := "print", desc := "()I" } : Jvm.MethodName) prog_7_method_34_code (2 : Nat) (Option.some Jvm.ClassFile.FieldType.int)) ∈ BIG := List.mem_filter.mpr ⟨List.mem_of_getElem? (i := 931) rfl, rfl⟩
theorem tw_878 : (Jvm.Cond.methodLink "CharMachineModel" (146 : Nat) ({ cls := "CharMachineModel", name := "punchCard", desc := "()I" } : Jvm.MethodName)) ∈ BIG := List.mem_filter.mpr ⟨List.mem_of_getElem? (i := 932) (by decide +kernel), by decide +kernel⟩
theorem tw_880 : (Jvm.Cond.instanceMethod ({ cls := "CharMachineModel", name := "punchCard", desc := "()I" } : Jvm.MethodName)) ∈ BIG := List.mem_filter.mpr ⟨List.mem_of_getElem? (i := 934) (by decide +kernel), by decide +kernel⟩
set_option maxRecDepth 100000 in
theorem tw_881 : (Jvm.Cond.code ({ cls := "CharMachineModel", name := "punchCard", desc := "()I" } : Jvm.MethodName) prog_7_method_35_code (2 : Nat) (Option.some Jvm.ClassFile.FieldType.int)) ∈ BIG := List.mem_filter.mpr ⟨List.mem_of_getElem? (i := 935) rfl, rfl⟩
theorem tw_882 : (Jvm.Cond.methodLink "CharMachineModel" (201 : Nat) ({ cls := "CharMachineModel", name := "keepRegister", desc := "()I" } : Jvm.MethodName)) ∈ BIG := List.mem_filter.mpr ⟨List.mem_of_getElem? (i := 936) (by decide +kernel), by decide +kernel⟩
theorem tw_884 : (Jvm.Cond.instanceMethod ({ cls := "CharMachineModel", name := "keepRegister", desc := "()I" } : Jvm.MethodName)) ∈ BIG := List.mem_filter.mpr ⟨List.mem_of_getElem? (i := 938) (by decide +kernel), by decide +kernel⟩
set_option maxRecDepth 100000 in
theorem tw_885 : (Jvm.Cond.code ({ cls := "CharMachineModel", name := "keepRegister", desc := "()I" } : Jvm.MethodName) prog_7_method_37_code (3 : Nat) (Option.some Jvm.ClassFile.FieldType.int)) ∈ BIG := List.mem_filter.mpr ⟨List.mem_of_getElem? (i := 939) rfl, rfl⟩
theorem tw_886 : (Jvm.Cond.methodLink "CharMachineModel" (204 : Nat) ({ cls := "CharMachineModel", name := "stopHere", desc := "()I" } : Jvm.MethodName)) ∈ BIG := List.mem_filter.mpr ⟨List.mem_of_getElem? (i := 940) (by decide +kernel), by decide +kernel⟩
theorem tw_888 : (Jvm.Cond.instanceMethod ({ cls := "CharMachineModel", name := "stopHere", desc := "()I" } : Jvm.MethodName)) ∈ BIG := List.mem_filter.mpr ⟨List.mem_of_getElem? (i := 942) (by decide +kernel), by decide +kernel⟩
set_option maxRecDepth 100000 in
theorem tw_889 : (Jvm.Cond.code ({ cls := "CharMachineModel", name := "stopHere", desc := "()I" } : Jvm.MethodName) prog_7_method_42_code (1 : Nat) (Option.some Jvm.ClassFile.FieldType.int)) ∈ BIG := List.mem_filter.mpr ⟨List.mem_of_getElem? (i := 943) rfl, rfl⟩
theorem tw_890 : (Jvm.Cond.methodLink "CharMachineLaw" (92 : Nat) ({ cls := "CharMachineModel", name := "at", desc := "(I)I" } : Jvm.MethodName)) ∈ BIG := List.mem_filter.mpr ⟨List.mem_of_getElem? (i := 944) (by decide +kernel), by decide +kernel⟩
theorem tw_891 : (Jvm.Cond.instanceMethod ({ cls := "CharMachineModel", name := "at", desc := "(I)I" } : Jvm.MethodName)) ∈ BIG := List.mem_filter.mpr ⟨List.mem_of_getElem? (i := 945) (by decide +kernel), by decide +kernel⟩
theorem tw_892 : (Jvm.Cond.selects "CharMachineModel" ({ cls := "CharMachineModel", name := "at", desc := "(I)I" } : Jvm.MethodName) ({ cls := "CharMachineModel", name := "at", desc := "(I)I" } : Jvm.MethodName)) ∈ BIG := List.mem_filter.mpr ⟨List.mem_of_getElem? (i := 946) (by decide +kernel), by decide +kernel⟩
set_option maxRecDepth 100000 in
theorem tw_893 : (Jvm.Cond.code ({ cls := "CharMachineModel", name := "at", desc := "(I)I" } : Jvm.MethodName) prog_7_method_45_code (2 : Nat) (Option.some Jvm.ClassFile.FieldType.int)) ∈ BIG := List.mem_filter.mpr ⟨List.mem_of_getElem? (i := 947) rfl, rfl⟩
theorem tw_894 : (Jvm.Cond.methodLink "CharMachineLaw" (95 : Nat) ({ cls := "CharMachineModel", name := "isMarked", desc := "(I)Z" } : Jvm.MethodName)) ∈ BIG := List.mem_filter.mpr ⟨List.mem_of_getElem? (i := 948) (by decide +kernel), by decide +kernel⟩
theorem tw_895 : (Jvm.Cond.instanceMethod ({ cls := "CharMachineModel", name := "isMarked", desc := "(I)Z" } : Jvm.MethodName)) ∈ BIG := List.mem_filter.mpr ⟨List.mem_of_getElem? (i := 949) (by decide +kernel), by decide +kernel⟩
theorem tw_896 : (Jvm.Cond.selects "CharMachineModel" ({ cls := "CharMachineModel", name := "isMarked", desc := "(I)Z" } : Jvm.MethodName) ({ cls := "CharMachineModel", name := "isMarked", desc := "(I)Z" } : Jvm.MethodName)) ∈ BIG := List.mem_filter.mpr ⟨List.mem_of_getElem? (i := 950) (by decide +kernel), by decide +kernel⟩
set_option maxRecDepth 100000 in
theorem tw_897 : (Jvm.Cond.code ({ cls := "CharMachineModel", name := "isMarked", desc := "(I)Z" } : Jvm.MethodName) prog_7_method_46_code (2 : Nat) (Option.some Jvm.ClassFile.FieldType.boolean)) ∈ BIG := List.mem_filter.mpr ⟨List.mem_of_getElem? (i := 951) rfl, rfl⟩
theorem tw_898 : (Jvm.Cond.methodLink "CharMachineLaw" (99 : Nat) ({ cls := "CharMachineModel", name := "state", desc := "(I)I" } : Jvm.MethodName)) ∈ BIG := List.mem_filter.mpr ⟨List.mem_of_getElem? (i := 952) (by decide +kernel), by decide +kernel⟩
theorem tw_899 : (Jvm.Cond.instanceMethod ({ cls := "CharMachineModel", name := "state", desc := "(I)I" } : Jvm.MethodName)) ∈ BIG := List.mem_filter.mpr ⟨List.mem_of_getElem? (i := 953) (by decide +kernel), by decide +kernel⟩
theorem tw_900 : (Jvm.Cond.selects "CharMachineModel" ({ cls := "CharMachineModel", name := "state", desc := "(I)I" } : Jvm.MethodName) ({ cls := "CharMachineModel", name := "state", desc := "(I)I" } : Jvm.MethodName)) ∈ BIG := List.mem_filter.mpr ⟨List.mem_of_getElem? (i := 954) (by decide +kernel), by decide +kernel⟩
set_option maxRecDepth 100000 in
theorem tw_901 : (Jvm.Cond.code ({ cls := "CharMachineModel", name := "state", desc := "(I)I" } : Jvm.MethodName) prog_7_method_47_code (2 : Nat) (Option.some Jvm.ClassFile.FieldType.int)) ∈ BIG := List.mem_filter.mpr ⟨List.mem_of_getElem? (i := 955) rfl, rfl⟩
theorem tw_902 : (Jvm.Cond.methodLink "CharMachineLaw" (103 : Nat) ({ cls := "CharMachineModel", name := "printed", desc := "(II)I" } : Jvm.MethodName)) ∈ BIG := List.mem_filter.mpr ⟨List.mem_of_getElem? (i := 956) (by decide +kernel), by decide +kernel⟩
theorem tw_903 : (Jvm.Cond.instanceMethod ({ cls := "CharMachineModel", name := "printed", desc := "(II)I" } : Jvm.MethodName)) ∈ BIG := List.mem_filter.mpr ⟨List.mem_of_getElem? (i := 957) (by decide +kernel), by decide +kernel⟩
theorem tw_904 : (Jvm.Cond.selects "CharMachineModel" ({ cls := "CharMachineModel", name := "printed", desc := "(II)I" } : Jvm.MethodName) ({ cls := "CharMachineModel", name := "printed", desc := "(II)I" } : Jvm.MethodName)) ∈ BIG := List.mem_filter.mpr ⟨List.mem_of_getElem? (i := 958) (by decide +kernel), by decide +kernel⟩
set_option maxRecDepth 100000 in
theorem tw_905 : (Jvm.Cond.code ({ cls := "CharMachineModel", name := "printed", desc := "(II)I" } : Jvm.MethodName) prog_7_method_48_code (3 : Nat) (Option.some Jvm.ClassFile.FieldType.int)) ∈ BIG := List.mem_filter.mpr ⟨List.mem_of_getElem? (i := 959) rfl, rfl⟩
theorem tw_906 : (Jvm.Cond.methodLink "CharMachineLaw" (106 : Nat) ({ cls := "CharMachineModel", name := "punched", desc := "(II)I" } : Jvm.MethodName)) ∈ BIG := List.mem_filter.mpr ⟨List.mem_of_getElem? (i := 960) (by decide +kernel), by decide +kernel⟩
theorem tw_907 : (Jvm.Cond.instanceMethod ({ cls := "CharMachineModel", name := "punched", desc := "(II)I" } : Jvm.MethodName)) ∈ BIG := List.mem_filter.mpr ⟨List.mem_of_getElem? (i := 961) (by decide +kernel), by decide +kernel⟩
theorem tw_908 : (Jvm.Cond.selects "CharMachineModel" ({ cls := "CharMachineModel", name := "punched", desc := "(II)I" } : Jvm.MethodName) ({ cls := "CharMachineModel", name := "punched", desc := "(II)I" } : Jvm.MethodName)) ∈ BIG := List.mem_filter.mpr ⟨List.mem_of_getElem? (i := 962) (by decide +kernel), by decide +kernel⟩
set_option maxRecDepth 100000 in
theorem tw_909 : (Jvm.Cond.code ({ cls := "CharMachineModel", name := "punched", desc := "(II)I" } : Jvm.MethodName) prog_7_method_49_code (3 : Nat) (Option.some Jvm.ClassFile.FieldType.int)) ∈ BIG := List.mem_filter.mpr ⟨List.mem_of_getElem? (i := 963) rfl, rfl⟩
theorem tw_910 : (Jvm.Cond.methodLink "CharMachineLaw" (109 : Nat) ({ cls := "CharMachineModel", name := "number", desc := "(I)J" } : Jvm.MethodName)) ∈ BIG := List.mem_filter.mpr ⟨List.mem_of_getElem? (i := 964) (by decide +kernel), by decide +kernel⟩
theorem tw_911 : (Jvm.Cond.instanceMethod ({ cls := "CharMachineModel", name := "number", desc := "(I)J" } : Jvm.MethodName)) ∈ BIG := List.mem_filter.mpr ⟨List.mem_of_getElem? (i := 965) (by decide +kernel), by decide +kernel⟩
theorem tw_912 : (Jvm.Cond.selects "CharMachineModel" ({ cls := "CharMachineModel", name := "number", desc := "(I)J" } : Jvm.MethodName) ({ cls := "CharMachineModel", name := "number", desc := "(I)J" } : Jvm.MethodName)) ∈ BIG := List.mem_filter.mpr ⟨List.mem_of_getElem? (i := 966) (by decide +kernel), by decide +kernel⟩
set_option maxRecDepth 100000 in
theorem tw_913 : (Jvm.Cond.code ({ cls := "CharMachineModel", name := "number", desc := "(I)J" } : Jvm.MethodName) prog_7_method_50_code (6 : Nat) (Option.some Jvm.ClassFile.FieldType.long)) ∈ BIG := List.mem_filter.mpr ⟨List.mem_of_getElem? (i := 967) rfl, rfl⟩
theorem tw_914 : (Jvm.Cond.constantLong "CharMachineModel" (219 : Nat) (10 : Int64)) ∈ BIG := List.mem_filter.mpr ⟨List.mem_of_getElem? (i := 968) (by decide +kernel), by decide +kernel⟩
theorem tw_915 : (Jvm.Cond.methodLink "CharMachineLaw" (113 : Nat) ({ cls := "CharMachineModel", name := "count", desc := "(I)I" } : Jvm.MethodName)) ∈ BIG := List.mem_filter.mpr ⟨List.mem_of_getElem? (i := 969) (by decide +kernel), by decide +kernel⟩
theorem tw_916 : (Jvm.Cond.instanceMethod ({ cls := "CharMachineModel", name := "count", desc := "(I)I" } : Jvm.MethodName)) ∈ BIG := List.mem_filter.mpr ⟨List.mem_of_getElem? (i := 970) (by decide +kernel), by decide +kernel⟩
theorem tw_917 : (Jvm.Cond.selects "CharMachineModel" ({ cls := "CharMachineModel", name := "count", desc := "(I)I" } : Jvm.MethodName) ({ cls := "CharMachineModel", name := "count", desc := "(I)I" } : Jvm.MethodName)) ∈ BIG := List.mem_filter.mpr ⟨List.mem_of_getElem? (i := 971) (by decide +kernel), by decide +kernel⟩
set_option maxRecDepth 100000 in
theorem tw_918 : (Jvm.Cond.code ({ cls := "CharMachineModel", name := "count", desc := "(I)I" } : Jvm.MethodName) prog_7_method_51_code (4 : Nat) (Option.some Jvm.ClassFile.FieldType.int)) ∈ BIG := List.mem_filter.mpr ⟨List.mem_of_getElem? (i := 972) rfl, rfl⟩
theorem tw_919 : (Jvm.Cond.constantLong "CharMachineLaw" (64 : Nat) (4294967295 : Int64)) ∈ BIG := List.mem_filter.mpr ⟨List.mem_of_getElem? (i := 973) (by decide +kernel), by decide +kernel⟩
theorem tw_920 : (Jvm.Cond.arrayClass Jvm.ClassFile.FieldType.long) ∈ BIG := List.mem_filter.mpr ⟨List.mem_of_getElem? (i := 974) (by decide +kernel), by decide +kernel⟩
def nwL : List Cond := [(Jvm.Cond.fieldLinkNest "CharMachine" (84 : Nat) "CharMachine$Processor" "i" "I" "CharMachine"), (Jvm.Cond.fieldLinkNest "CharMachine" (107 : Nat) "CharMachine$Processor" "a" "I" "CharMachine"), (Jvm.Cond.fieldLinkNest "CharMachine" (110 : Nat) "CharMachine$Processor" "b" "I" "CharMachine"), (Jvm.Cond.fieldLinkNest "CharMachine" (113 : Nat) "CharMachine$Processor" "comparison" "I" "CharMachine"), (Jvm.Cond.fieldLinkNest "CharMachine" (116 : Nat) "CharMachine$Processor" "overflow" "Z" "CharMachine"), (Jvm.Cond.fieldLinkNest "CharMachine" (120 : Nat) "CharMachine$Processor" "lastCard" "Z" "CharMachine"), (Jvm.Cond.methodLinkNest "CharMachine$Arithmetic" (27 : Nat) ({ cls := "CharMachine", name := "written", desc := "(I)I" } : Jvm.MethodName) "CharMachine"), (Jvm.Cond.methodLinkNest "CharMachine$Processor" (148 : Nat) ({ cls := "CharMachine", name := "signZone", desc := "(Z)I" } : Jvm.MethodName) "CharMachine"), (Jvm.Cond.methodLinkNest "CharMachine$Store" (55 : Nat) ({ cls := "CharMachine", name := "written", desc := "(I)I" } : Jvm.MethodName) "CharMachine")]
theorem nwL_in : ∀ w ∈ nwL, w ∈ lw_tbl := by decide +kernel
end
section
def R_AR : String := "CharMachine$Arithmetic"
def T_AR : u_T := fun k => match k with
  | 0 => (R_AR, "store", "LCharMachine$Store;", true)
  | _ => (R_AR, "digits", "[I", true)
def t_AR : Nat → FieldType := fun k => match k with
  | 0 => .object "CharMachine$Store"
  | _ => .array .int
theorem n_AR : ∀ a, a < 2 → ∀ b, b < 2 → a ≠ b → (T_AR a).2.1 ≠ (T_AR b).2.1 := by decide +kernel
theorem t_AR_ok : ∀ k, k < 2 → parseFieldDescriptor (T_AR k).2.2.1 = some (t_AR k) := by decide +kernel
theorem ly_AR_0 : u_lay R_AR T_AR 0 ∈ BIG := tw_73
theorem ly_AR_1 : u_lay R_AR T_AR 1 ∈ BIG := tw_75
theorem lays_AR : ∀ w ∈ u_ws R_AR T_AR 2, w ∈ BIG := by
  intro w hw
  obtain ⟨k, hk, rfl⟩ := List.mem_map.mp hw
  have hk := List.mem_range.mp hk
  match k, hk with
  | 0, _ => exact ly_AR_0
  | 1, _ => exact ly_AR_1
  | k + 2, h => exact absurd h (by omega)
def R_PI : String := "CharMachine$Pile"
def T_PI : u_T := fun k => match k with
  | 0 => (R_PI, "limit", "I", true)
  | 1 => (R_PI, "width", "I", true)
  | 2 => (R_PI, "columns", "[I", true)
  | _ => (R_PI, "filled", "I", false)
def t_PI : Nat → FieldType := fun k => match k with
  | 0 => .int
  | 1 => .int
  | 2 => .array .int
  | _ => .int
theorem n_PI : ∀ a, a < 4 → ∀ b, b < 4 → a ≠ b → (T_PI a).2.1 ≠ (T_PI b).2.1 := by decide +kernel
theorem t_PI_ok : ∀ k, k < 4 → parseFieldDescriptor (T_PI k).2.2.1 = some (t_PI k) := by decide +kernel
theorem ly_PI_0 : u_lay R_PI T_PI 0 ∈ BIG := tw_46
theorem ly_PI_1 : u_lay R_PI T_PI 1 ∈ BIG := tw_48
theorem ly_PI_2 : u_lay R_PI T_PI 2 ∈ BIG := tw_50
theorem ly_PI_3 : u_lay R_PI T_PI 3 ∈ BIG := tw_52
theorem lays_PI : ∀ w ∈ u_ws R_PI T_PI 4, w ∈ BIG := by
  intro w hw
  obtain ⟨k, hk, rfl⟩ := List.mem_map.mp hw
  have hk := List.mem_range.mp hk
  match k, hk with
  | 0, _ => exact ly_PI_0
  | 1, _ => exact ly_PI_1
  | 2, _ => exact ly_PI_2
  | 3, _ => exact ly_PI_3
  | k + 4, h => exact absurd h (by omega)
def R_PR : String := "CharMachine$Processor"
def T_PR : u_T := fun k => match k with
  | 0 => (R_PR, "store", "LCharMachine$Store;", true)
  | 1 => (R_PR, "cards", "LCharMachine$Pile;", true)
  | 2 => (R_PR, "lines", "LCharMachine$Pile;", true)
  | 3 => (R_PR, "punches", "LCharMachine$Pile;", true)
  | 4 => (R_PR, "arithmetic", "LCharMachine$Arithmetic;", true)
  | 5 => (R_PR, "i", "I", false)
  | 6 => (R_PR, "a", "I", false)
  | 7 => (R_PR, "b", "I", false)
  | 8 => (R_PR, "comparison", "I", false)
  | 9 => (R_PR, "overflow", "Z", false)
  | 10 => (R_PR, "lastCard", "Z", false)
  | _ => (R_PR, "cardsRead", "I", false)
def t_PR : Nat → FieldType := fun k => match k with
  | 0 => .object "CharMachine$Store"
  | 1 => .object "CharMachine$Pile"
  | 2 => .object "CharMachine$Pile"
  | 3 => .object "CharMachine$Pile"
  | 4 => .object "CharMachine$Arithmetic"
  | 5 => .int
  | 6 => .int
  | 7 => .int
  | 8 => .int
  | 9 => .boolean
  | 10 => .boolean
  | _ => .int
theorem n_PR : ∀ a, a < 12 → ∀ b, b < 12 → a ≠ b → (T_PR a).2.1 ≠ (T_PR b).2.1 := by decide +kernel
theorem t_PR_ok : ∀ k, k < 12 → parseFieldDescriptor (T_PR k).2.2.1 = some (t_PR k) := by decide +kernel
theorem ly_PR_0 : u_lay R_PR T_PR 0 ∈ BIG := tw_96
theorem ly_PR_1 : u_lay R_PR T_PR 1 ∈ BIG := tw_98
theorem ly_PR_2 : u_lay R_PR T_PR 2 ∈ BIG := tw_100
theorem ly_PR_3 : u_lay R_PR T_PR 3 ∈ BIG := tw_102
theorem ly_PR_4 : u_lay R_PR T_PR 4 ∈ BIG := tw_104
theorem ly_PR_5 : u_lay R_PR T_PR 5 ∈ BIG := tw_106
theorem ly_PR_6 : u_lay R_PR T_PR 6 ∈ BIG := tw_108
theorem ly_PR_7 : u_lay R_PR T_PR 7 ∈ BIG := tw_110
theorem ly_PR_8 : u_lay R_PR T_PR 8 ∈ BIG := tw_112
theorem ly_PR_9 : u_lay R_PR T_PR 9 ∈ BIG := tw_114
theorem ly_PR_10 : u_lay R_PR T_PR 10 ∈ BIG := tw_116
theorem ly_PR_11 : u_lay R_PR T_PR 11 ∈ BIG := tw_118
theorem lays_PR : ∀ w ∈ u_ws R_PR T_PR 12, w ∈ BIG := by
  intro w hw
  obtain ⟨k, hk, rfl⟩ := List.mem_map.mp hw
  have hk := List.mem_range.mp hk
  match k, hk with
  | 0, _ => exact ly_PR_0
  | 1, _ => exact ly_PR_1
  | 2, _ => exact ly_PR_2
  | 3, _ => exact ly_PR_3
  | 4, _ => exact ly_PR_4
  | 5, _ => exact ly_PR_5
  | 6, _ => exact ly_PR_6
  | 7, _ => exact ly_PR_7
  | 8, _ => exact ly_PR_8
  | 9, _ => exact ly_PR_9
  | 10, _ => exact ly_PR_10
  | 11, _ => exact ly_PR_11
  | k + 12, h => exact absurd h (by omega)
def R_ST : String := "CharMachine$Store"
def T_ST : u_T := fun k => match k with
  | _ => (R_ST, "cells", "[I", true)
def t_ST : Nat → FieldType := fun k => match k with
  | _ => .array .int
theorem n_ST : ∀ a, a < 1 → ∀ b, b < 1 → a ≠ b → (T_ST a).2.1 ≠ (T_ST b).2.1 := by decide +kernel
theorem t_ST_ok : ∀ k, k < 1 → parseFieldDescriptor (T_ST k).2.2.1 = some (t_ST k) := by decide +kernel
theorem ly_ST_0 : u_lay R_ST T_ST 0 ∈ BIG := tw_32
theorem lays_ST : ∀ w ∈ u_ws R_ST T_ST 1, w ∈ BIG := by
  intro w hw
  obtain ⟨k, hk, rfl⟩ := List.mem_map.mp hw
  have hk := List.mem_range.mp hk
  match k, hk with
  | 0, _ => exact ly_ST_0
  | k + 1, h => exact absurd h (by omega)
def R_CM : String := "CharMachine"
def T_CM : u_T := fun k => match k with
  | 0 => (R_CM, "store", "LCharMachine$Store;", true)
  | 1 => (R_CM, "cards", "LCharMachine$Pile;", true)
  | 2 => (R_CM, "lines", "LCharMachine$Pile;", true)
  | 3 => (R_CM, "punches", "LCharMachine$Pile;", true)
  | 4 => (R_CM, "processor", "LCharMachine$Processor;", true)
  | 5 => (R_CM, "stepsSoFar", "I", false)
  | _ => (R_CM, "latestAnswer", "I", false)
def t_CM : Nat → FieldType := fun k => match k with
  | 0 => .object "CharMachine$Store"
  | 1 => .object "CharMachine$Pile"
  | 2 => .object "CharMachine$Pile"
  | 3 => .object "CharMachine$Pile"
  | 4 => .object "CharMachine$Processor"
  | 5 => .int
  | _ => .int
theorem n_CM : ∀ a, a < 7 → ∀ b, b < 7 → a ≠ b → (T_CM a).2.1 ≠ (T_CM b).2.1 := by decide +kernel
theorem t_CM_ok : ∀ k, k < 7 → parseFieldDescriptor (T_CM k).2.2.1 = some (t_CM k) := by decide +kernel
theorem ly_CM_0 : u_lay R_CM T_CM 0 ∈ BIG := tw_128
theorem ly_CM_1 : u_lay R_CM T_CM 1 ∈ BIG := tw_130
theorem ly_CM_2 : u_lay R_CM T_CM 2 ∈ BIG := tw_132
theorem ly_CM_3 : u_lay R_CM T_CM 3 ∈ BIG := tw_134
theorem ly_CM_4 : u_lay R_CM T_CM 4 ∈ BIG := tw_136
theorem ly_CM_5 : u_lay R_CM T_CM 5 ∈ BIG := tw_138
theorem ly_CM_6 : u_lay R_CM T_CM 6 ∈ BIG := tw_140
theorem lays_CM : ∀ w ∈ u_ws R_CM T_CM 7, w ∈ BIG := by
  intro w hw
  obtain ⟨k, hk, rfl⟩ := List.mem_map.mp hw
  have hk := List.mem_range.mp hk
  match k, hk with
  | 0, _ => exact ly_CM_0
  | 1, _ => exact ly_CM_1
  | 2, _ => exact ly_CM_2
  | 3, _ => exact ly_CM_3
  | 4, _ => exact ly_CM_4
  | 5, _ => exact ly_CM_5
  | 6, _ => exact ly_CM_6
  | k + 7, h => exact absurd h (by omega)
def R_MO : String := "CharMachineModel"
def T_MO : u_T := fun k => match k with
  | 0 => (R_MO, "thrown", "I", false)
  | 1 => (R_MO, "size", "I", true)
  | 2 => (R_MO, "store", "[B", true)
  | 3 => (R_MO, "mark", "[Z", true)
  | 4 => (R_MO, "at", "I", false)
  | 5 => (R_MO, "a", "I", false)
  | 6 => (R_MO, "b", "I", false)
  | 7 => (R_MO, "compared", "I", false)
  | 8 => (R_MO, "overflow", "Z", false)
  | 9 => (R_MO, "last", "Z", false)
  | 10 => (R_MO, "steps", "I", false)
  | 11 => (R_MO, "answer", "I", false)
  | 12 => (R_MO, "op", "I", false)
  | 13 => (R_MO, "length", "I", false)
  | 14 => (R_MO, "from", "I", false)
  | 15 => (R_MO, "hadA", "I", false)
  | 16 => (R_MO, "hadB", "I", false)
  | 17 => (R_MO, "making", "[B", true)
  | 18 => (R_MO, "cards", "I", false)
  | 19 => (R_MO, "read", "I", false)
  | 20 => (R_MO, "card", "[B", true)
  | 21 => (R_MO, "lines", "I", false)
  | 22 => (R_MO, "line", "[B", true)
  | 23 => (R_MO, "punched", "I", false)
  | 24 => (R_MO, "punch", "[B", true)
  | 25 => (R_MO, "one", "[I", true)
  | 26 => (R_MO, "two", "[I", true)
  | _ => (R_MO, "copy", "[B", true)
def t_MO : Nat → FieldType := fun k => match k with
  | 0 => .int
  | 1 => .int
  | 2 => .array .byte
  | 3 => .array .boolean
  | 4 => .int
  | 5 => .int
  | 6 => .int
  | 7 => .int
  | 8 => .boolean
  | 9 => .boolean
  | 10 => .int
  | 11 => .int
  | 12 => .int
  | 13 => .int
  | 14 => .int
  | 15 => .int
  | 16 => .int
  | 17 => .array .byte
  | 18 => .int
  | 19 => .int
  | 20 => .array .byte
  | 21 => .int
  | 22 => .array .byte
  | 23 => .int
  | 24 => .array .byte
  | 25 => .array .int
  | 26 => .array .int
  | _ => .array .byte
theorem n_MO : ∀ a, a < 28 → ∀ b, b < 28 → a ≠ b → (T_MO a).2.1 ≠ (T_MO b).2.1 := by decide +kernel
theorem t_MO_ok : ∀ k, k < 28 → parseFieldDescriptor (T_MO k).2.2.1 = some (t_MO k) := by decide +kernel
theorem ly_MO_0 : u_lay R_MO T_MO 0 ∈ BIG := tw_664
theorem ly_MO_1 : u_lay R_MO T_MO 1 ∈ BIG := tw_666
theorem ly_MO_2 : u_lay R_MO T_MO 2 ∈ BIG := tw_668
theorem ly_MO_3 : u_lay R_MO T_MO 3 ∈ BIG := tw_670
theorem ly_MO_4 : u_lay R_MO T_MO 4 ∈ BIG := tw_672
theorem ly_MO_5 : u_lay R_MO T_MO 5 ∈ BIG := tw_674
theorem ly_MO_6 : u_lay R_MO T_MO 6 ∈ BIG := tw_676
theorem ly_MO_7 : u_lay R_MO T_MO 7 ∈ BIG := tw_678
theorem ly_MO_8 : u_lay R_MO T_MO 8 ∈ BIG := tw_680
theorem ly_MO_9 : u_lay R_MO T_MO 9 ∈ BIG := tw_682
theorem ly_MO_10 : u_lay R_MO T_MO 10 ∈ BIG := tw_684
theorem ly_MO_11 : u_lay R_MO T_MO 11 ∈ BIG := tw_686
theorem ly_MO_12 : u_lay R_MO T_MO 12 ∈ BIG := tw_688
theorem ly_MO_13 : u_lay R_MO T_MO 13 ∈ BIG := tw_690
theorem ly_MO_14 : u_lay R_MO T_MO 14 ∈ BIG := tw_692
theorem ly_MO_15 : u_lay R_MO T_MO 15 ∈ BIG := tw_694
theorem ly_MO_16 : u_lay R_MO T_MO 16 ∈ BIG := tw_696
theorem ly_MO_17 : u_lay R_MO T_MO 17 ∈ BIG := tw_698
theorem ly_MO_18 : u_lay R_MO T_MO 18 ∈ BIG := tw_700
theorem ly_MO_19 : u_lay R_MO T_MO 19 ∈ BIG := tw_702
theorem ly_MO_20 : u_lay R_MO T_MO 20 ∈ BIG := tw_704
theorem ly_MO_21 : u_lay R_MO T_MO 21 ∈ BIG := tw_706
theorem ly_MO_22 : u_lay R_MO T_MO 22 ∈ BIG := tw_708
theorem ly_MO_23 : u_lay R_MO T_MO 23 ∈ BIG := tw_710
theorem ly_MO_24 : u_lay R_MO T_MO 24 ∈ BIG := tw_712
theorem ly_MO_25 : u_lay R_MO T_MO 25 ∈ BIG := tw_714
theorem ly_MO_26 : u_lay R_MO T_MO 26 ∈ BIG := tw_716
theorem ly_MO_27 : u_lay R_MO T_MO 27 ∈ BIG := tw_718
theorem lays_MO : ∀ w ∈ u_ws R_MO T_MO 28, w ∈ BIG := by
  intro w hw
  obtain ⟨k, hk, rfl⟩ := List.mem_map.mp hw
  have hk := List.mem_range.mp hk
  match k, hk with
  | 0, _ => exact ly_MO_0
  | 1, _ => exact ly_MO_1
  | 2, _ => exact ly_MO_2
  | 3, _ => exact ly_MO_3
  | 4, _ => exact ly_MO_4
  | 5, _ => exact ly_MO_5
  | 6, _ => exact ly_MO_6
  | 7, _ => exact ly_MO_7
  | 8, _ => exact ly_MO_8
  | 9, _ => exact ly_MO_9
  | 10, _ => exact ly_MO_10
  | 11, _ => exact ly_MO_11
  | 12, _ => exact ly_MO_12
  | 13, _ => exact ly_MO_13
  | 14, _ => exact ly_MO_14
  | 15, _ => exact ly_MO_15
  | 16, _ => exact ly_MO_16
  | 17, _ => exact ly_MO_17
  | 18, _ => exact ly_MO_18
  | 19, _ => exact ly_MO_19
  | 20, _ => exact ly_MO_20
  | 21, _ => exact ly_MO_21
  | 22, _ => exact ly_MO_22
  | 23, _ => exact ly_MO_23
  | 24, _ => exact ly_MO_24
  | 25, _ => exact ly_MO_25
  | 26, _ => exact ly_MO_26
  | 27, _ => exact ly_MO_27
  | k + 28, h => exact absurd h (by omega)
def R_LA : String := "CharMachineLaw"
abbrev vwCl : List vw_C := [(R_AR, T_AR, 2), (R_PI, T_PI, 4), (R_PR, T_PR, 12), (R_ST, T_ST, 1), (R_CM, T_CM, 7), (R_MO, T_MO, 28)]
abbrev b_AR_init : ByteArray := prog_2_method_1_code
def y_AR_init : MethodName := ⟨R_AR, "<init>", "(LCharMachine$Store;)V"⟩
abbrev b_AR_readDigits : ByteArray := prog_2_method_2_code
def y_AR_readDigits : MethodName := ⟨R_AR, "readDigits", "(III)V"⟩
abbrev b_AR_replace : ByteArray := prog_2_method_3_code
def y_AR_replace : MethodName := ⟨R_AR, "replace", "(II)V"⟩
abbrev b_AR_add : ByteArray := prog_2_method_4_code
def y_AR_add : MethodName := ⟨R_AR, "add", "(II)Z"⟩
abbrev b_AR_subtract : ByteArray := prog_2_method_5_code
def y_AR_subtract : MethodName := ⟨R_AR, "subtract", "(IIZ)V"⟩
abbrev b_AR_isGreater : ByteArray := prog_2_method_6_code
def y_AR_isGreater : MethodName := ⟨R_AR, "isGreater", "(II)Z"⟩
abbrev b_PI_init : ByteArray := prog_3_method_1_code
def y_PI_init : MethodName := ⟨R_PI, "<init>", "(II)V"⟩
abbrev b_PI_filled : ByteArray := prog_3_method_2_code
def y_PI_filled : MethodName := ⟨R_PI, "filled", "()I"⟩
abbrev b_PI_isFull : ByteArray := prog_3_method_3_code
def y_PI_isFull : MethodName := ⟨R_PI, "isFull", "()Z"⟩
abbrev b_PI_holds : ByteArray := prog_3_method_4_code
def y_PI_holds : MethodName := ⟨R_PI, "holds", "(II)Z"⟩
abbrev b_PI_character : ByteArray := prog_3_method_5_code
def y_PI_character : MethodName := ⟨R_PI, "character", "(II)I"⟩
abbrev b_PI_write : ByteArray := prog_3_method_6_code
def y_PI_write : MethodName := ⟨R_PI, "write", "(II)V"⟩
abbrev b_PI_close : ByteArray := prog_3_method_7_code
def y_PI_close : MethodName := ⟨R_PI, "close", "()V"⟩
abbrev b_PI_copy : ByteArray := prog_3_method_8_code
def y_PI_copy : MethodName := ⟨R_PI, "copy", "(LCharMachine$Store;I)V"⟩
abbrev b_PR_init : ByteArray := prog_4_method_1_code
def y_PR_init : MethodName := ⟨R_PR, "<init>", "(LCharMachine$Store;LCharMachine$Pile;LCharMachine$Pile;LCharMachine$Pile;)V"⟩
abbrev b_PR_cardsToRead : ByteArray := prog_4_method_2_code
def y_PR_cardsToRead : MethodName := ⟨R_PR, "cardsToRead", "()I"⟩
abbrev b_PR_step : ByteArray := prog_4_method_3_code
def y_PR_step : MethodName := ⟨R_PR, "step", "()I"⟩
abbrev b_PR_instructionLength : ByteArray := prog_4_method_4_code
def y_PR_instructionLength : MethodName := ⟨R_PR, "instructionLength", "()I"⟩
abbrev b_PR_allows : ByteArray := prog_4_method_5_code
def y_PR_allows : MethodName := ⟨R_PR, "allows", "(II)Z"⟩
abbrev b_PR_takeAddresses : ByteArray := prog_4_method_6_code
def y_PR_takeAddresses : MethodName := ⟨R_PR, "takeAddresses", "(II)V"⟩
abbrev b_PR_keepsB : ByteArray := prog_4_method_7_code
def y_PR_keepsB : MethodName := ⟨R_PR, "keepsB", "(I)Z"⟩
abbrev b_PR_perform : ByteArray := prog_4_method_8_code
def y_PR_perform : MethodName := ⟨R_PR, "perform", "(III)I"⟩
abbrev b_PR_goThere : ByteArray := prog_4_method_9_code
def y_PR_goThere : MethodName := ⟨R_PR, "goThere", "()V"⟩
abbrev b_PR_modifier : ByteArray := prog_4_method_10_code
def y_PR_modifier : MethodName := ⟨R_PR, "modifier", "()I"⟩
abbrev b_PR_calculate : ByteArray := prog_4_method_11_code
def y_PR_calculate : MethodName := ⟨R_PR, "calculate", "(ZZ)I"⟩
abbrev b_PR_addSigned : ByteArray := prog_4_method_12_code
def y_PR_addSigned : MethodName := ⟨R_PR, "addSigned", "(IZ)V"⟩
abbrev b_PR_move : ByteArray := prog_4_method_13_code
def y_PR_move : MethodName := ⟨R_PR, "move", "()I"⟩
abbrev b_PR_load : ByteArray := prog_4_method_14_code
def y_PR_load : MethodName := ⟨R_PR, "load", "()I"⟩
abbrev b_PR_moveBits : ByteArray := prog_4_method_15_code
def y_PR_moveBits : MethodName := ⟨R_PR, "moveBits", "(I)I"⟩
abbrev b_PR_compare : ByteArray := prog_4_method_16_code
def y_PR_compare : MethodName := ⟨R_PR, "compare", "()I"⟩
abbrev b_PR_orderOf : ByteArray := prog_4_method_17_code
def y_PR_orderOf : MethodName := ⟨R_PR, "orderOf", "(I)I"⟩
abbrev b_PR_rank : ByteArray := prog_4_method_18_code
def y_PR_rank : MethodName := ⟨R_PR, "rank", "(I)I"⟩
abbrev b_PR_changeMarks : ByteArray := prog_4_method_19_code
def y_PR_changeMarks : MethodName := ⟨R_PR, "changeMarks", "(Z)I"⟩
abbrev b_PR_clear : ByteArray := prog_4_method_20_code
def y_PR_clear : MethodName := ⟨R_PR, "clear", "(Z)I"⟩
abbrev b_PR_suppressZeros : ByteArray := prog_4_method_21_code
def y_PR_suppressZeros : MethodName := ⟨R_PR, "suppressZeros", "()I"⟩
abbrev b_PR_isSuppressed : ByteArray := prog_4_method_22_code
def y_PR_isSuppressed : MethodName := ⟨R_PR, "isSuppressed", "(I)Z"⟩
abbrev b_PR_branch : ByteArray := prog_4_method_23_code
def y_PR_branch : MethodName := ⟨R_PR, "branch", "(I)I"⟩
abbrev b_PR_isIndicated : ByteArray := prog_4_method_24_code
def y_PR_isIndicated : MethodName := ⟨R_PR, "isIndicated", "(I)Z"⟩
abbrev b_PR_takeOverflow : ByteArray := prog_4_method_25_code
def y_PR_takeOverflow : MethodName := ⟨R_PR, "takeOverflow", "()Z"⟩
abbrev b_PR_branchByPosition : ByteArray := prog_4_method_26_code
def y_PR_branchByPosition : MethodName := ⟨R_PR, "branchByPosition", "()I"⟩
abbrev b_PR_isAsAsked : ByteArray := prog_4_method_27_code
def y_PR_isAsAsked : MethodName := ⟨R_PR, "isAsAsked", "(II)Z"⟩
abbrev b_PR_readCard : ByteArray := prog_4_method_28_code
def y_PR_readCard : MethodName := ⟨R_PR, "readCard", "(Z)I"⟩
abbrev b_PR_fillRow : ByteArray := prog_4_method_29_code
def y_PR_fillRow : MethodName := ⟨R_PR, "fillRow", "(LCharMachine$Pile;IIZ)I"⟩
abbrev b_PR_endTransfer : ByteArray := prog_4_method_30_code
def y_PR_endTransfer : MethodName := ⟨R_PR, "endTransfer", "(IZ)V"⟩
abbrev b_PR_storeAddress : ByteArray := prog_4_method_31_code
def y_PR_storeAddress : MethodName := ⟨R_PR, "storeAddress", "(I)I"⟩
abbrev b_PR_halt : ByteArray := prog_4_method_32_code
def y_PR_halt : MethodName := ⟨R_PR, "halt", "(Z)I"⟩
abbrev b_ST_init : ByteArray := prog_5_method_1_code
def y_ST_init : MethodName := ⟨R_ST, "<init>", "(I)V"⟩
abbrev b_ST_size : ByteArray := prog_5_method_2_code
def y_ST_size : MethodName := ⟨R_ST, "size", "()I"⟩
abbrev b_ST_has : ByteArray := prog_5_method_3_code
def y_ST_has : MethodName := ⟨R_ST, "has", "(I)Z"⟩
abbrev b_ST_hasSpan : ByteArray := prog_5_method_4_code
def y_ST_hasSpan : MethodName := ⟨R_ST, "hasSpan", "(II)Z"⟩
abbrev b_ST_character : ByteArray := prog_5_method_5_code
def y_ST_character : MethodName := ⟨R_ST, "character", "(I)I"⟩
abbrev b_ST_hasMark : ByteArray := prog_5_method_6_code
def y_ST_hasMark : MethodName := ⟨R_ST, "hasMark", "(I)Z"⟩
abbrev b_ST_zone : ByteArray := prog_5_method_7_code
def y_ST_zone : MethodName := ⟨R_ST, "zone", "(I)I"⟩
abbrev b_ST_digit : ByteArray := prog_5_method_8_code
def y_ST_digit : MethodName := ⟨R_ST, "digit", "(I)I"⟩
abbrev b_ST_isMinus : ByteArray := prog_5_method_9_code
def y_ST_isMinus : MethodName := ⟨R_ST, "isMinus", "(I)Z"⟩
abbrev b_ST_place : ByteArray := prog_5_method_10_code
def y_ST_place : MethodName := ⟨R_ST, "place", "(IIZ)V"⟩
abbrev b_ST_write : ByteArray := prog_5_method_11_code
def y_ST_write : MethodName := ⟨R_ST, "write", "(II)V"⟩
abbrev b_ST_writeZone : ByteArray := prog_5_method_12_code
def y_ST_writeZone : MethodName := ⟨R_ST, "writeZone", "(II)V"⟩
abbrev b_ST_mark : ByteArray := prog_5_method_13_code
def y_ST_mark : MethodName := ⟨R_ST, "mark", "(IZ)V"⟩
abbrev b_ST_copySpan : ByteArray := prog_5_method_14_code
def y_ST_copySpan : MethodName := ⟨R_ST, "copySpan", "(III)V"⟩
abbrev b_ST_fieldLength1 : ByteArray := prog_5_method_15_code
def y_ST_fieldLength1 : MethodName := ⟨R_ST, "fieldLength", "(I)I"⟩
abbrev b_ST_fieldLength2 : ByteArray := prog_5_method_16_code
def y_ST_fieldLength2 : MethodName := ⟨R_ST, "fieldLength", "(II)I"⟩
abbrev b_ST_commonLength : ByteArray := prog_5_method_17_code
def y_ST_commonLength : MethodName := ⟨R_ST, "commonLength", "(II)I"⟩
abbrev b_ST_address : ByteArray := prog_5_method_18_code
def y_ST_address : MethodName := ⟨R_ST, "address", "(I)I"⟩
abbrev b_ST_writeAddress : ByteArray := prog_5_method_19_code
def y_ST_writeAddress : MethodName := ⟨R_ST, "writeAddress", "(II)V"⟩
abbrev b_ST_markCount : ByteArray := prog_5_method_20_code
def y_ST_markCount : MethodName := ⟨R_ST, "markCount", "()I"⟩
abbrev b_CM_init : ByteArray := prog_1_method_1_code
def y_CM_init : MethodName := ⟨R_CM, "<init>", "(I)V"⟩
abbrev b_CM_set : ByteArray := prog_1_method_2_code
def y_CM_set : MethodName := ⟨R_CM, "set", "(IIZ)Z"⟩
abbrev b_CM_put : ByteArray := prog_1_method_3_code
def y_CM_put : MethodName := ⟨R_CM, "put", "(IJI)I"⟩
abbrev b_CM_column : ByteArray := prog_1_method_4_code
def y_CM_column : MethodName := ⟨R_CM, "column", "(II)Z"⟩
abbrev b_CM_card : ByteArray := prog_1_method_5_code
def y_CM_card : MethodName := ⟨R_CM, "card", "()I"⟩
abbrev b_CM_start : ByteArray := prog_1_method_6_code
def y_CM_start : MethodName := ⟨R_CM, "start", "(I)Z"⟩
abbrev b_CM_run : ByteArray := prog_1_method_7_code
def y_CM_run : MethodName := ⟨R_CM, "run", "(I)I"⟩
abbrev b_CM_at : ByteArray := prog_1_method_8_code
def y_CM_at : MethodName := ⟨R_CM, "at", "(I)I"⟩
abbrev b_CM_isMarked : ByteArray := prog_1_method_9_code
def y_CM_isMarked : MethodName := ⟨R_CM, "isMarked", "(I)Z"⟩
abbrev b_CM_state : ByteArray := prog_1_method_10_code
def y_CM_state : MethodName := ⟨R_CM, "state", "(I)I"⟩
abbrev b_CM_printed : ByteArray := prog_1_method_11_code
def y_CM_printed : MethodName := ⟨R_CM, "printed", "(II)I"⟩
abbrev b_CM_punched : ByteArray := prog_1_method_12_code
def y_CM_punched : MethodName := ⟨R_CM, "punched", "(II)I"⟩
abbrev b_CM_number : ByteArray := prog_1_method_13_code
def y_CM_number : MethodName := ⟨R_CM, "number", "(I)J"⟩
abbrev b_CM_count : ByteArray := prog_1_method_14_code
def y_CM_count : MethodName := ⟨R_CM, "count", "(I)I"⟩
abbrev b_CM_isCharacter : ByteArray := prog_1_method_15_code
def y_CM_isCharacter : MethodName := ⟨R_CM, "isCharacter", "(I)Z"⟩
abbrev b_CM_byteOf : ByteArray := prog_1_method_16_code
def y_CM_byteOf : MethodName := ⟨R_CM, "byteOf", "(JI)I"⟩
abbrev b_CM_charactersIn : ByteArray := prog_1_method_17_code
def y_CM_charactersIn : MethodName := ⟨R_CM, "charactersIn", "(J)I"⟩
abbrev b_CM_written : ByteArray := prog_1_method_18_code
def y_CM_written : MethodName := ⟨R_CM, "written", "(I)I"⟩
abbrev b_CM_signZone : ByteArray := prog_1_method_19_code
def y_CM_signZone : MethodName := ⟨R_CM, "signZone", "(Z)I"⟩
abbrev b_MO_init : ByteArray := prog_7_method_1_code
def y_MO_init : MethodName := ⟨R_MO, "<init>", "(I)V"⟩
abbrev b_MO_thrown : ByteArray := prog_7_method_2_code
def y_MO_thrown : MethodName := ⟨R_MO, "thrown", "()I"⟩
abbrev b_MO_is : ByteArray := prog_7_method_3_code
def y_MO_is : MethodName := ⟨R_MO, "is", "(I)Z"⟩
abbrev b_MO_isCharacter : ByteArray := prog_7_method_4_code
def y_MO_isCharacter : MethodName := ⟨R_MO, "isCharacter", "(I)Z"⟩
abbrev b_MO_zone : ByteArray := prog_7_method_5_code
def y_MO_zone : MethodName := ⟨R_MO, "zone", "(I)I"⟩
abbrev b_MO_value : ByteArray := prog_7_method_6_code
def y_MO_value : MethodName := ⟨R_MO, "value", "(I)I"⟩
abbrev b_MO_digit : ByteArray := prog_7_method_7_code
def y_MO_digit : MethodName := ⟨R_MO, "digit", "(I)I"⟩
abbrev b_MO_set : ByteArray := prog_7_method_8_code
def y_MO_set : MethodName := ⟨R_MO, "set", "(IIZ)Z"⟩
abbrev b_MO_put : ByteArray := prog_7_method_9_code
def y_MO_put : MethodName := ⟨R_MO, "put", "(IJI)I"⟩
abbrev b_MO_column : ByteArray := prog_7_method_10_code
def y_MO_column : MethodName := ⟨R_MO, "column", "(II)Z"⟩
abbrev b_MO_card : ByteArray := prog_7_method_11_code
def y_MO_card : MethodName := ⟨R_MO, "card", "()I"⟩
abbrev b_MO_start : ByteArray := prog_7_method_12_code
def y_MO_start : MethodName := ⟨R_MO, "start", "(I)Z"⟩
abbrev b_MO_field : ByteArray := prog_7_method_13_code
def y_MO_field : MethodName := ⟨R_MO, "field", "(II)I"⟩
abbrev b_MO_isMinus : ByteArray := prog_7_method_14_code
def y_MO_isMinus : MethodName := ⟨R_MO, "isMinus", "(I)Z"⟩
abbrev b_MO_readDigits : ByteArray := prog_7_method_15_code
def y_MO_readDigits : MethodName := ⟨R_MO, "readDigits", "([IIII)V"⟩
abbrev b_MO_writeDigits : ByteArray := prog_7_method_16_code
def y_MO_writeDigits : MethodName := ⟨R_MO, "writeDigits", "(II)V"⟩
abbrev b_MO_isMore : ByteArray := prog_7_method_17_code
def y_MO_isMore : MethodName := ⟨R_MO, "isMore", "(I)Z"⟩
abbrev b_MO_add : ByteArray := prog_7_method_18_code
def y_MO_add : MethodName := ⟨R_MO, "add", "()I"⟩
abbrev b_MO_reset : ByteArray := prog_7_method_19_code
def y_MO_reset : MethodName := ⟨R_MO, "reset", "()I"⟩
abbrev b_MO_both : ByteArray := prog_7_method_20_code
def y_MO_both : MethodName := ⟨R_MO, "both", "()I"⟩
abbrev b_MO_move : ByteArray := prog_7_method_21_code
def y_MO_move : MethodName := ⟨R_MO, "move", "()I"⟩
abbrev b_MO_load : ByteArray := prog_7_method_22_code
def y_MO_load : MethodName := ⟨R_MO, "load", "()I"⟩
abbrev b_MO_part : ByteArray := prog_7_method_23_code
def y_MO_part : MethodName := ⟨R_MO, "part", "()I"⟩
abbrev b_MO_rank : ByteArray := prog_7_method_24_code
def y_MO_rank : MethodName := ⟨R_MO, "rank", "(I)I"⟩
abbrev b_MO_compare : ByteArray := prog_7_method_25_code
def y_MO_compare : MethodName := ⟨R_MO, "compare", "()I"⟩
abbrev b_MO_marks : ByteArray := prog_7_method_26_code
def y_MO_marks : MethodName := ⟨R_MO, "marks", "()I"⟩
abbrev b_MO_go : ByteArray := prog_7_method_27_code
def y_MO_go : MethodName := ⟨R_MO, "go", "()V"⟩
abbrev b_MO_clear : ByteArray := prog_7_method_28_code
def y_MO_clear : MethodName := ⟨R_MO, "clear", "()I"⟩
abbrev b_MO_edit : ByteArray := prog_7_method_29_code
def y_MO_edit : MethodName := ⟨R_MO, "edit", "()I"⟩
abbrev b_MO_modifier : ByteArray := prog_7_method_30_code
def y_MO_modifier : MethodName := ⟨R_MO, "modifier", "()I"⟩
abbrev b_MO_branch : ByteArray := prog_7_method_31_code
def y_MO_branch : MethodName := ⟨R_MO, "branch", "()I"⟩
abbrev b_MO_branchMark : ByteArray := prog_7_method_32_code
def y_MO_branchMark : MethodName := ⟨R_MO, "branchMark", "()I"⟩
abbrev b_MO_readCard : ByteArray := prog_7_method_33_code
def y_MO_readCard : MethodName := ⟨R_MO, "readCard", "()I"⟩
abbrev b_MO_print : ByteArray := prog_7_method_34_code
def y_MO_print : MethodName := ⟨R_MO, "print", "()I"⟩
abbrev b_MO_punchCard : ByteArray := prog_7_method_35_code
def y_MO_punchCard : MethodName := ⟨R_MO, "punchCard", "()I"⟩
abbrev b_MO_device : ByteArray := prog_7_method_36_code
def y_MO_device : MethodName := ⟨R_MO, "device", "()I"⟩
abbrev b_MO_keepRegister : ByteArray := prog_7_method_37_code
def y_MO_keepRegister : MethodName := ⟨R_MO, "keepRegister", "()I"⟩
abbrev b_MO_address : ByteArray := prog_7_method_38_code
def y_MO_address : MethodName := ⟨R_MO, "address", "(I)I"⟩
abbrev b_MO_isArithmetic : ByteArray := prog_7_method_39_code
def y_MO_isArithmetic : MethodName := ⟨R_MO, "isArithmetic", "(I)Z"⟩
abbrev b_MO_may : ByteArray := prog_7_method_40_code
def y_MO_may : MethodName := ⟨R_MO, "may", "(II)Z"⟩
abbrev b_MO_fetch : ByteArray := prog_7_method_41_code
def y_MO_fetch : MethodName := ⟨R_MO, "fetch", "()I"⟩
abbrev b_MO_stopHere : ByteArray := prog_7_method_42_code
def y_MO_stopHere : MethodName := ⟨R_MO, "stopHere", "()I"⟩
abbrev b_MO_execute : ByteArray := prog_7_method_43_code
def y_MO_execute : MethodName := ⟨R_MO, "execute", "()I"⟩
abbrev b_MO_run : ByteArray := prog_7_method_44_code
def y_MO_run : MethodName := ⟨R_MO, "run", "(I)I"⟩
abbrev b_MO_at : ByteArray := prog_7_method_45_code
def y_MO_at : MethodName := ⟨R_MO, "at", "(I)I"⟩
abbrev b_MO_isMarked : ByteArray := prog_7_method_46_code
def y_MO_isMarked : MethodName := ⟨R_MO, "isMarked", "(I)Z"⟩
abbrev b_MO_state : ByteArray := prog_7_method_47_code
def y_MO_state : MethodName := ⟨R_MO, "state", "(I)I"⟩
abbrev b_MO_printed : ByteArray := prog_7_method_48_code
def y_MO_printed : MethodName := ⟨R_MO, "printed", "(II)I"⟩
abbrev b_MO_punched : ByteArray := prog_7_method_49_code
def y_MO_punched : MethodName := ⟨R_MO, "punched", "(II)I"⟩
abbrev b_MO_number : ByteArray := prog_7_method_50_code
def y_MO_number : MethodName := ⟨R_MO, "number", "(I)J"⟩
abbrev b_MO_count : ByteArray := prog_7_method_51_code
def y_MO_count : MethodName := ⟨R_MO, "count", "(I)I"⟩
abbrev b_LA_cell : ByteArray := method_2_code
def y_LA_cell : MethodName := ⟨R_LA, "cell", "([II)I"⟩
abbrev b_LA_put : ByteArray := method_3_code
def y_LA_put : MethodName := ⟨R_LA, "put", "(LCharMachine;IJI[J)I"⟩
abbrev b_LA_card : ByteArray := method_4_code
def y_LA_card : MethodName := ⟨R_LA, "card", "(LCharMachine;[J)I"⟩
abbrev b_LA_run : ByteArray := method_5_code
def y_LA_run : MethodName := ⟨R_LA, "run", "(LCharMachine;I[J)I"⟩
abbrev b_LA_at : ByteArray := method_6_code
def y_LA_at : MethodName := ⟨R_LA, "at", "(LCharMachine;I[J)I"⟩
abbrev b_LA_isMarked : ByteArray := method_7_code
def y_LA_isMarked : MethodName := ⟨R_LA, "isMarked", "(LCharMachine;I[J)I"⟩
abbrev b_LA_printed : ByteArray := method_8_code
def y_LA_printed : MethodName := ⟨R_LA, "printed", "(LCharMachine;II[J)I"⟩
abbrev b_LA_punched : ByteArray := method_9_code
def y_LA_punched : MethodName := ⟨R_LA, "punched", "(LCharMachine;II[J)I"⟩
abbrev b_LA_number : ByteArray := method_10_code
def y_LA_number : MethodName := ⟨R_LA, "number", "(LCharMachine;I[J)I"⟩
end
section
/-! numbers: an Int32 by its integer -/
def iI (z : Int) : Int32 := Int32.ofInt z
theorem iI_of (x : Int32) : ∃ z : Int, (-2147483648 ≤ z ∧ z < 2147483648) ∧ x = iI z := ⟨x.toInt, ⟨Int32.le_toInt x, Int32.toInt_lt x⟩, (Int32.ofInt_toInt x).symm⟩
theorem iI_toInt {z : Int} (h : -2147483648 ≤ z ∧ z < 2147483648) : (iI z).toInt = z := Int32.toInt_ofInt_of_le h.1 h.2
theorem iI_add (a b : Int) : iI a + iI b = iI (a + b) := (Int32.ofInt_add a b).symm
theorem iI_sub (a b : Int) : iI a - iI b = iI (a - b) := (Int32.ofInt_sub a b).symm
theorem iI_mul (a b : Int) : iI a * iI b = iI (a * b) := (Int32.ofInt_mul a b).symm
theorem iI_neg (a : Int) : - iI a = iI (- a) := (Int32.ofInt_neg a).symm
theorem iI_lt {a b : Int} (ha : -2147483648 ≤ a ∧ a < 2147483648) (hb : -2147483648 ≤ b ∧ b < 2147483648) : iI a < iI b ↔ a < b := by
  rw [Int32.lt_iff_toInt_lt, iI_toInt ha, iI_toInt hb]
theorem iI_le {a b : Int} (ha : -2147483648 ≤ a ∧ a < 2147483648) (hb : -2147483648 ≤ b ∧ b < 2147483648) : iI a ≤ iI b ↔ a ≤ b := by
  rw [Int32.le_iff_toInt_le, iI_toInt ha, iI_toInt hb]
theorem iI_eq {a b : Int} (ha : -2147483648 ≤ a ∧ a < 2147483648) (hb : -2147483648 ≤ b ∧ b < 2147483648) : iI a = iI b ↔ a = b := by
  constructor
  · intro h
    have h2 := congrArg Int32.toInt h
    rwa [iI_toInt ha, iI_toInt hb] at h2
  · intro h; rw [h]
theorem iI_0 : iI 0 = 0 := rfl
theorem iI_nI (n : Nat) : iI (n : Int) = nI n := by
  show Int32.ofInt (n : Int) = Int32.ofNat n
  exact Int32.ofInt_eq_ofNat
theorem iI_clamp {z : Int} (h : 0 ≤ z ∧ z < 2147483648) : (iI z).toNatClampNeg = z.toNat := by
  show (iI z).toInt.toNat = z.toNat
  rw [iI_toInt (by omega)]
theorem iI_in {z : Int} {n : Nat} (h : 0 ≤ z ∧ z < n) (hn : n < 2147483648) : vp_in (iI z) n := by
  rw [vp_in_iff, iI_toInt (by omega)]
  omega
theorem iI_nneg {z : Int} (h : 0 ≤ z ∧ z < 2147483648) : ¬ iI z < 0 := by
  rw [← iI_0, iI_lt (by omega) (by omega)]; omega
theorem iI_divT {a b : Int} (ha : 0 ≤ a ∧ a < 2147483648) (hb : 0 < b ∧ b < 2147483648) : iI a / iI b = iI (a / b) := by
  obtain ⟨n, rfl⟩ := Int.eq_ofNat_of_zero_le ha.1
  obtain ⟨d, rfl⟩ := Int.eq_ofNat_of_zero_le (show 0 ≤ b by omega)
  rw [iI_nI, iI_nI, pk_div (by omega) (by omega) (by omega), ← iI_nI]
  rfl
theorem iI_remT {a b : Int} (ha : 0 ≤ a ∧ a < 2147483648) (hb : 0 < b ∧ b < 2147483648) : iI a - iI a / iI b * iI b = iI (a % b) := by
  obtain ⟨n, rfl⟩ := Int.eq_ofNat_of_zero_le ha.1
  obtain ⟨d, rfl⟩ := Int.eq_ofNat_of_zero_le (show 0 ≤ b by omega)
  rw [iI_nI, iI_nI, pk_rem (by omega) (by omega) (by omega), ← iI_nI]
  rfl
/-! functions that are changed at a place -/
def fu {α : Type} (f : Int → α) (z : Int) (v : α) : Int → α := fun j => if j = z then v else f j
theorem fu_self {α : Type} (f : Int → α) (z : Int) (v : α) : fu f z v z = v := by simp [fu]
theorem fu_ne {α : Type} (f : Int → α) {z j : Int} (v : α) (h : j ≠ z) : fu f z v j = f j := by simp [fu, h]
theorem fu_upd {g : Int → Int32} {z : Int} {x : Int32} (h : 0 ≤ z) : upd (fun j : Nat => g (j : Int)) z.toNat x = fun j : Nat => fu g z x (j : Int) := by
  funext j
  by_cases hj : j = z.toNat
  · subst hj
    simp [upd, fu, Int.toNat_of_nonneg h]
  · have : (j : Int) ≠ z := by omega
    simp [upd, fu, hj, this]
section CX1
variable {p : Program} {l : Launch} {e : Env} {R : Room} {s : State} {m : MethodId} {args : Array Value} {below : List Frame} {meth : Method} {c : Code} {H : Heap} {locs : List Loc} {cells slots : Nat} {Q : State → Prop}
variable {cc : ByteArray} {pc : Nat} {ls : Array Slot} {rest : List Value}
/-! rows whose numbers are integers -/
theorem cx_eq {x y : Int32} (h : x = y) (k : W p l e R s m args below meth c H locs cells slots Q (F0 m pc ls (.int y :: rest))) : W p l e R s m args below meth c H locs cells slots Q (F0 m pc ls (.int x :: rest)) := h ▸ k
theorem cx_eqL {x y : Int64} (h : x = y) (k : W p l e R s m args below meth c H locs cells slots Q (F0 m pc ls (.long y :: rest))) : W p l e R s m args below meth c H locs cells slots Q (F0 m pc ls (.long x :: rest)) := h ▸ k
theorem cx_iconst (hexec : p.tables.exec = Jvm.exec) (hb : c.code = cc) {n : Int} (hdg : decode cc pc = .ok (.iconst n, 1))
    (k : W p l e R s m args below meth c H locs cells slots Q (F0 m (pc + 1) ls (.int (iI n) :: rest))) : W p l e R s m args below meth c H locs cells slots Q (F0 m pc ls rest) := lv_iconst hexec hb hdg rfl k
theorem cx_bipush (hexec : p.tables.exec = Jvm.exec) (hb : c.code = cc) {n : Int} (hdg : decode cc pc = .ok (.bipush n, 2)) (h : (Int8.ofInt n).toInt32 = iI n)
    (k : W p l e R s m args below meth c H locs cells slots Q (F0 m (pc + 2) ls (.int (iI n) :: rest))) : W p l e R s m args below meth c H locs cells slots Q (F0 m pc ls rest) := lv_bipush hexec hb hdg h k
theorem cx_sipush (hexec : p.tables.exec = Jvm.exec) (hb : c.code = cc) {n : Int} (hdg : decode cc pc = .ok (.sipush n, 3)) (h : (Int16.ofInt n).toInt32 = iI n)
    (k : W p l e R s m args below meth c H locs cells slots Q (F0 m (pc + 3) ls (.int (iI n) :: rest))) : W p l e R s m args below meth c H locs cells slots Q (F0 m pc ls rest) := lv_sipush hexec hb hdg h k
theorem cx_iadd (hexec : p.tables.exec = Jvm.exec) (hb : c.code = cc) {x y : Int} (hdg : decode cc pc = .ok (.iadd, 1))
    (k : W p l e R s m args below meth c H locs cells slots Q (F0 m (pc + 1) ls (.int (iI (x + y)) :: rest))) : W p l e R s m args below meth c H locs cells slots Q (F0 m pc ls (.int (iI y) :: .int (iI x) :: rest)) := lv_iadd hexec hb hdg (cx_eq (iI_add x y) k)
theorem cx_isub (hexec : p.tables.exec = Jvm.exec) (hb : c.code = cc) {x y : Int} (hdg : decode cc pc = .ok (.isub, 1))
    (k : W p l e R s m args below meth c H locs cells slots Q (F0 m (pc + 1) ls (.int (iI (x - y)) :: rest))) : W p l e R s m args below meth c H locs cells slots Q (F0 m pc ls (.int (iI y) :: .int (iI x) :: rest)) := lv_isub hexec hb hdg (cx_eq (iI_sub x y) k)
theorem cx_imul (hexec : p.tables.exec = Jvm.exec) (hb : c.code = cc) {x y : Int} (hdg : decode cc pc = .ok (.imul, 1))
    (k : W p l e R s m args below meth c H locs cells slots Q (F0 m (pc + 1) ls (.int (iI (x * y)) :: rest))) : W p l e R s m args below meth c H locs cells slots Q (F0 m pc ls (.int (iI y) :: .int (iI x) :: rest)) := lv_imul hexec hb hdg (cx_eq (iI_mul x y) k)
theorem cx_idiv (hexec : p.tables.exec = Jvm.exec) (hb : c.code = cc) {x y : Int} (hdg : decode cc pc = .ok (.idiv, 1)) (hx : 0 ≤ x ∧ x < 2147483648) (hy : 0 < y ∧ y < 2147483648)
    (k : W p l e R s m args below meth c H locs cells slots Q (F0 m (pc + 1) ls (.int (iI (x / y)) :: rest))) : W p l e R s m args below meth c H locs cells slots Q (F0 m pc ls (.int (iI y) :: .int (iI x) :: rest)) := lv_idiv hexec hb hdg (by rw [← iI_0, iI_eq (by omega) (by omega)]; omega) (cx_eq (iI_divT hx hy) k)
theorem cx_irem (hexec : p.tables.exec = Jvm.exec) (hb : c.code = cc) {x y : Int} (hdg : decode cc pc = .ok (.irem, 1)) (hx : 0 ≤ x ∧ x < 2147483648) (hy : 0 < y ∧ y < 2147483648)
    (k : W p l e R s m args below meth c H locs cells slots Q (F0 m (pc + 1) ls (.int (iI (x % y)) :: rest))) : W p l e R s m args below meth c H locs cells slots Q (F0 m pc ls (.int (iI y) :: .int (iI x) :: rest)) := lv_irem hexec hb hdg (by rw [← iI_0, iI_eq (by omega) (by omega)]; omega) (cx_eq (iI_remT hx hy) k)
theorem cx_iinc (hexec : p.tables.exec = Jvm.exec) (hb : c.code = cc) {i nL k : Nat} {n : Int} {x : Int} {lv lv' : List (Nat × Value)} (hdg : decode cc pc = .ok (.iinc i n, 3)) (h : lv_has ls nL lv) (hk : lv[k]? = some (i, .int (iI x))) (hn : i < nL) (hl : (i, Value.int (iI (x + n))) :: lv.filter (fun q => !(q.1 == i) && !(q.1 + 1 == i && q.2.category == 2)) = lv')
    (kk : ∀ ls' : Array Slot, lv_has ls' nL lv' → W p l e R s m args below meth c H locs cells slots Q (F0 m (pc + 3) ls' rest)) : W p l e R s m args below meth c H locs cells slots Q (F0 m pc ls rest) := lv_iinc hexec hb hdg h hk (iI_add x n) hn hl kk
theorem cx_if_eq (hexec : p.tables.exec = Jvm.exec) (hb : c.code = cc) {x : Int} {off : Int} {tgt : Nat} (hdg : decode cc pc = .ok (.ifCond .eq off, 3)) (ht : (pc : Int) + off = (tgt : Int)) (hx : -2147483648 ≤ x ∧ x < 2147483648)
    (kt : x = 0 → W p l e R s m args below meth c H locs cells slots Q (F0 m tgt ls rest)) (kf : ¬ x = 0 → W p l e R s m args below meth c H locs cells slots Q (F0 m (pc + 3) ls rest)) : W p l e R s m args below meth c H locs cells slots Q (F0 m pc ls (.int (iI x) :: rest)) :=
  lv_if_eq hexec hb hdg ht (fun h => kt ((iI_eq hx (by omega)).mp h)) (fun h => kf (fun q => h ((iI_eq hx (by omega)).mpr q)))
theorem cx_if_ne (hexec : p.tables.exec = Jvm.exec) (hb : c.code = cc) {x : Int} {off : Int} {tgt : Nat} (hdg : decode cc pc = .ok (.ifCond .ne off, 3)) (ht : (pc : Int) + off = (tgt : Int)) (hx : -2147483648 ≤ x ∧ x < 2147483648)
    (kt : ¬ x = 0 → W p l e R s m args below meth c H locs cells slots Q (F0 m tgt ls rest)) (kf : x = 0 → W p l e R s m args below meth c H locs cells slots Q (F0 m (pc + 3) ls rest)) : W p l e R s m args below meth c H locs cells slots Q (F0 m pc ls (.int (iI x) :: rest)) :=
  lv_if_ne hexec hb hdg ht (fun h => kt (fun q => h ((iI_eq hx (by omega)).mpr q))) (fun h => kf ((iI_eq hx (by omega)).mp h))
theorem cx_if_lt (hexec : p.tables.exec = Jvm.exec) (hb : c.code = cc) {x : Int} {off : Int} {tgt : Nat} (hdg : decode cc pc = .ok (.ifCond .lt off, 3)) (ht : (pc : Int) + off = (tgt : Int)) (hx : -2147483648 ≤ x ∧ x < 2147483648)
    (kt : x < 0 → W p l e R s m args below meth c H locs cells slots Q (F0 m tgt ls rest)) (kf : 0 ≤ x → W p l e R s m args below meth c H locs cells slots Q (F0 m (pc + 3) ls rest)) : W p l e R s m args below meth c H locs cells slots Q (F0 m pc ls (.int (iI x) :: rest)) :=
  lv_if_lt hexec hb hdg ht (fun h => kt ((iI_lt hx (by omega)).mp h)) (fun h => kf (Int.not_lt.mp (fun q => h ((iI_lt hx (by omega)).mpr q))))
theorem cx_if_ge (hexec : p.tables.exec = Jvm.exec) (hb : c.code = cc) {x : Int} {off : Int} {tgt : Nat} (hdg : decode cc pc = .ok (.ifCond .ge off, 3)) (ht : (pc : Int) + off = (tgt : Int)) (hx : -2147483648 ≤ x ∧ x < 2147483648)
    (kt : 0 ≤ x → W p l e R s m args below meth c H locs cells slots Q (F0 m tgt ls rest)) (kf : x < 0 → W p l e R s m args below meth c H locs cells slots Q (F0 m (pc + 3) ls rest)) : W p l e R s m args below meth c H locs cells slots Q (F0 m pc ls (.int (iI x) :: rest)) :=
  lv_if_ge hexec hb hdg ht (fun h => kt ((by first | exact (iI_le (by omega) hx).mp h | exact Int.not_lt.mp (fun q => h ((iI_lt hx (by omega)).mpr q))))) (fun h => kf ((by first | exact (iI_lt hx (by omega)).mp h | exact Int.not_le.mp (fun q => h ((iI_le (by omega) hx).mpr q)) | exact Decidable.byContradiction (fun n => h (fun q => n ((iI_lt hx (by omega)).mp q))))))
theorem cx_if_gt (hexec : p.tables.exec = Jvm.exec) (hb : c.code = cc) {x : Int} {off : Int} {tgt : Nat} (hdg : decode cc pc = .ok (.ifCond .gt off, 3)) (ht : (pc : Int) + off = (tgt : Int)) (hx : -2147483648 ≤ x ∧ x < 2147483648)
    (kt : 0 < x → W p l e R s m args below meth c H locs cells slots Q (F0 m tgt ls rest)) (kf : x ≤ 0 → W p l e R s m args below meth c H locs cells slots Q (F0 m (pc + 3) ls rest)) : W p l e R s m args below meth c H locs cells slots Q (F0 m pc ls (.int (iI x) :: rest)) :=
  lv_if_gt hexec hb hdg ht (fun h => kt ((by first | exact (iI_lt (by omega) hx).mp h | exact Int.not_le.mp (fun q => h ((iI_le hx (by omega)).mpr q))))) (fun h => kf ((by first | exact (iI_le hx (by omega)).mp h | exact Int.not_lt.mp (fun q => h ((iI_lt (by omega) hx).mpr q)) | exact Decidable.byContradiction (fun n => h (fun q => n ((iI_le hx (by omega)).mp q))))))
theorem cx_if_le (hexec : p.tables.exec = Jvm.exec) (hb : c.code = cc) {x : Int} {off : Int} {tgt : Nat} (hdg : decode cc pc = .ok (.ifCond .le off, 3)) (ht : (pc : Int) + off = (tgt : Int)) (hx : -2147483648 ≤ x ∧ x < 2147483648)
    (kt : x ≤ 0 → W p l e R s m args below meth c H locs cells slots Q (F0 m tgt ls rest)) (kf : 0 < x → W p l e R s m args below meth c H locs cells slots Q (F0 m (pc + 3) ls rest)) : W p l e R s m args below meth c H locs cells slots Q (F0 m pc ls (.int (iI x) :: rest)) :=
  lv_if_le hexec hb hdg ht (fun h => kt ((by first | exact (iI_le hx (by omega)).mp h | exact Int.not_lt.mp (fun q => h ((iI_lt (by omega) hx).mpr q))))) (fun h => kf ((by first | exact (iI_lt (by omega) hx).mp h | exact Int.not_le.mp (fun q => h ((iI_le hx (by omega)).mpr q)) | exact Decidable.byContradiction (fun n => h (fun q => n ((iI_lt (by omega) hx).mp q))))))
theorem cx_icmp_eq (hexec : p.tables.exec = Jvm.exec) (hb : c.code = cc) {x y : Int} {off : Int} {tgt : Nat} (hdg : decode cc pc = .ok (.if_icmp .eq off, 3)) (ht : (pc : Int) + off = (tgt : Int)) (hx : -2147483648 ≤ x ∧ x < 2147483648) (hy : -2147483648 ≤ y ∧ y < 2147483648)
    (kt : x = y → W p l e R s m args below meth c H locs cells slots Q (F0 m tgt ls rest)) (kf : ¬ x = y → W p l e R s m args below meth c H locs cells slots Q (F0 m (pc + 3) ls rest)) : W p l e R s m args below meth c H locs cells slots Q (F0 m pc ls (.int (iI y) :: .int (iI x) :: rest)) :=
  lv_icmp_eq hexec hb hdg ht (fun h => kt ((iI_eq hx hy).mp h)) (fun h => kf (fun q => h ((iI_eq hx hy).mpr q)))
theorem cx_icmp_ne (hexec : p.tables.exec = Jvm.exec) (hb : c.code = cc) {x y : Int} {off : Int} {tgt : Nat} (hdg : decode cc pc = .ok (.if_icmp .ne off, 3)) (ht : (pc : Int) + off = (tgt : Int)) (hx : -2147483648 ≤ x ∧ x < 2147483648) (hy : -2147483648 ≤ y ∧ y < 2147483648)
    (kt : ¬ x = y → W p l e R s m args below meth c H locs cells slots Q (F0 m tgt ls rest)) (kf : x = y → W p l e R s m args below meth c H locs cells slots Q (F0 m (pc + 3) ls rest)) : W p l e R s m args below meth c H locs cells slots Q (F0 m pc ls (.int (iI y) :: .int (iI x) :: rest)) :=
  lv_icmp_ne hexec hb hdg ht (fun h => kt (fun q => h ((iI_eq hx hy).mpr q))) (fun h => kf ((iI_eq hx hy).mp h))
theorem cx_icmp_lt (hexec : p.tables.exec = Jvm.exec) (hb : c.code = cc) {x y : Int} {off : Int} {tgt : Nat} (hdg : decode cc pc = .ok (.if_icmp .lt off, 3)) (ht : (pc : Int) + off = (tgt : Int)) (hx : -2147483648 ≤ x ∧ x < 2147483648) (hy : -2147483648 ≤ y ∧ y < 2147483648)
    (kt : x < y → W p l e R s m args below meth c H locs cells slots Q (F0 m tgt ls rest)) (kf : y ≤ x → W p l e R s m args below meth c H locs cells slots Q (F0 m (pc + 3) ls rest)) : W p l e R s m args below meth c H locs cells slots Q (F0 m pc ls (.int (iI y) :: .int (iI x) :: rest)) :=
  lv_icmp_lt hexec hb hdg ht (fun h => kt ((iI_lt hx hy).mp h)) (fun h => kf (Int.not_lt.mp (fun q => h ((iI_lt hx hy).mpr q))))
theorem cx_icmp_ge (hexec : p.tables.exec = Jvm.exec) (hb : c.code = cc) {x y : Int} {off : Int} {tgt : Nat} (hdg : decode cc pc = .ok (.if_icmp .ge off, 3)) (ht : (pc : Int) + off = (tgt : Int)) (hx : -2147483648 ≤ x ∧ x < 2147483648) (hy : -2147483648 ≤ y ∧ y < 2147483648)
    (kt : y ≤ x → W p l e R s m args below meth c H locs cells slots Q (F0 m tgt ls rest)) (kf : x < y → W p l e R s m args below meth c H locs cells slots Q (F0 m (pc + 3) ls rest)) : W p l e R s m args below meth c H locs cells slots Q (F0 m pc ls (.int (iI y) :: .int (iI x) :: rest)) :=
  lv_icmp_ge hexec hb hdg ht (fun h => kt ((by first | exact (iI_le hy hx).mp h | exact Int.not_lt.mp (fun q => h ((iI_lt hx hy).mpr q))))) (fun h => kf ((by first | exact (iI_lt hx hy).mp h | exact Int.not_le.mp (fun q => h ((iI_le hy hx).mpr q)) | exact Decidable.byContradiction (fun n => h (fun q => n ((iI_lt hx hy).mp q))))))
theorem cx_icmp_gt (hexec : p.tables.exec = Jvm.exec) (hb : c.code = cc) {x y : Int} {off : Int} {tgt : Nat} (hdg : decode cc pc = .ok (.if_icmp .gt off, 3)) (ht : (pc : Int) + off = (tgt : Int)) (hx : -2147483648 ≤ x ∧ x < 2147483648) (hy : -2147483648 ≤ y ∧ y < 2147483648)
    (kt : y < x → W p l e R s m args below meth c H locs cells slots Q (F0 m tgt ls rest)) (kf : x ≤ y → W p l e R s m args below meth c H locs cells slots Q (F0 m (pc + 3) ls rest)) : W p l e R s m args below meth c H locs cells slots Q (F0 m pc ls (.int (iI y) :: .int (iI x) :: rest)) :=
  lv_icmp_gt hexec hb hdg ht (fun h => kt ((by first | exact (iI_lt hy hx).mp h | exact Int.not_le.mp (fun q => h ((iI_le hx hy).mpr q))))) (fun h => kf ((by first | exact (iI_le hx hy).mp h | exact Int.not_lt.mp (fun q => h ((iI_lt hy hx).mpr q)) | exact Decidable.byContradiction (fun n => h (fun q => n ((iI_le hx hy).mp q))))))
theorem cx_icmp_le (hexec : p.tables.exec = Jvm.exec) (hb : c.code = cc) {x y : Int} {off : Int} {tgt : Nat} (hdg : decode cc pc = .ok (.if_icmp .le off, 3)) (ht : (pc : Int) + off = (tgt : Int)) (hx : -2147483648 ≤ x ∧ x < 2147483648) (hy : -2147483648 ≤ y ∧ y < 2147483648)
    (kt : x ≤ y → W p l e R s m args below meth c H locs cells slots Q (F0 m tgt ls rest)) (kf : y < x → W p l e R s m args below meth c H locs cells slots Q (F0 m (pc + 3) ls rest)) : W p l e R s m args below meth c H locs cells slots Q (F0 m pc ls (.int (iI y) :: .int (iI x) :: rest)) :=
  lv_icmp_le hexec hb hdg ht (fun h => kt ((by first | exact (iI_le hx hy).mp h | exact Int.not_lt.mp (fun q => h ((iI_lt hy hx).mpr q))))) (fun h => kf ((by first | exact (iI_lt hy hx).mp h | exact Int.not_le.mp (fun q => h ((iI_le hx hy).mpr q)) | exact Decidable.byContradiction (fun n => h (fun q => n ((iI_lt hy hx).mp q))))))
end CX1
end
section
/-! contracts over worlds: one start, one end, one row a call -/
def cx_isN : Cond → Bool
  | .fieldLinkNest .. => true
  | .methodLinkNest .. => true
  | _ => false
def cx_N (nw : List Cond) (U : State) : Prop := ∀ w ∈ nw, va_Nw w U
theorem cx_isN_on {w : Cond} (h : cx_isN w = true) : w.onTables = true := by
  unfold cx_isN at h
  split at h
  · rfl
  · rfl
  · cases h
theorem cx_N_one {w : Cond} (h : cx_isN w = true) {s U : State} (hW : s.WarmedH U.vm) (hZ : va_Nw w s) : va_Nw w U := by
  unfold cx_isN at h
  split at h
  · exact va_Nw.warmF hW hZ
  · exact va_Nw.warmM hW hZ
  · cases h
theorem cx_N.moved {nw : List Cond} (hnw : nw.all cx_isN = true) {s U : State} (hW : s.WarmedH U.vm) (h : cx_N nw s) : cx_N nw U := fun w hw => cx_N_one (List.all_eq_true.mp hnw w hw) hW (h w hw)
def cx_B (D : va_G) (cl : List vw_C) (tys : List (ClassId × FieldType)) (nw : List Cond) (sz : Nat) (wc : va_W) (U : State) : Prop := U.heap.size = sz ∧ va_P D cl wc U.heap ∧ va_K D cl tys U ∧ va_D (fun _ => True) wc ∧ cx_N nw U
theorem cx_blind {D : va_G} {cl : List vw_C} {tys : List (ClassId × FieldType)} {nw : List Cond} {sz : Nat} {wc : va_W} {av : List Value} (hnw : nw.all cx_isN = true) : FrameBlind (va_Pc av (cx_B D cl tys nw sz wc)) := fun a U g mk q => by
  obtain ⟨q0, q1, qP, qK, qD, qN⟩ := q
  exact ⟨q0, q1, qP, va_K.moved (u := U) (U := U.calling g mk a) (Vm.Alike.refl U.vm) qK, qD, fun w hw => va_Nw.same (cx_isN_on (List.all_eq_true.mp hnw w hw)) (u := U) (U := U.calling g mk a) rfl (qN w hw)⟩
theorem cx_sub {D : va_G} {cl : List vw_C} {ws ws' : va_W} {H : Heap} (h : va_P D cl ws H) (is : List Nat) (hs : is.map (fun i => ws[i]?) = ws'.map some) : va_P D cl ws' H := by
  intro k q hk
  have h1 : (is.map (fun i => ws[i]?))[k]? = some (some q) := by rw [hs, List.getElem?_map, hk]; rfl
  rw [List.getElem?_map] at h1
  cases hi : is[k]? with
  | none => rw [hi] at h1; cases h1
  | some i => rw [hi] at h1; exact h i q (Option.some.inj h1)
/-- ends: an int, nothing, a long -/
def cxI {S : Type} (D : va_G) (cl : List vw_C) (post : Int32 → S → Prop) (wn : S → va_W) (A : Nat → Prop) : Array Value → State → Outcome → State → Prop := va_Qi post (fun u t => va_P D cl (wn u) t.heap ∧ va_D A (wn u)) A
def cxV {S : Type} (D : va_G) (cl : List vw_C) (post : S → Prop) (wn : S → va_W) (A : Nat → Prop) : Array Value → State → Outcome → State → Prop := va_Qv post (fun u t => va_P D cl (wn u) t.heap ∧ va_D A (wn u)) A
def cxL {S : Type} (D : va_G) (cl : List vw_C) (post : Int64 → S → Prop) (wn : S → va_W) (A : Nat → Prop) : Array Value → State → Outcome → State → Prop := va_Ql post (fun u t => va_P D cl (wn u) t.heap ∧ va_D A (wn u)) A
/-- a contract's body, from its entry -/
theorem cx_in {l : Launch} {y : MethodName} {ws ws' : List Cond} {rm : Room} {D : va_G} {cl : List vw_C} {tys : List (ClassId × FieldType)} {nw : List Cond} {sz : Nat} {wc : va_W} {av : List Value} {Qf : (Nat → Prop) → Array Value → State → Outcome → State → Prop} {mc ms : Nat} {cc : ByteArray} {maxL : Nat} {ret : Option FieldType}
    (hy : plainName y.cls = true) (hw : ws = Cond.code y cc maxL ret :: ws') (hn : (lg_sl av).length ≤ maxL)
    (body : ∀ (p : Program) (e : Env) (s : State) (m : MethodId) (below : List Frame) (meth : Method) (c : Code) (ls : Array Slot) (A : Nat → Prop), p.tables.exec = Jvm.exec → c.code = cc → meth.sig.returnType = ret → c.maxLocals = maxL → (∀ w ∈ ws', w.before av.toArray s = true) → s.vm.findClass y.cls = some m.cls → meth.locks = false → meth.name = y.name →
      va_P D cl wc s.heap → va_K D cl tys s → va_D A wc → cx_N nw s → va_S A s.heap s.heap [] → (∀ q : Nat, s.heap.size ≤ q → A q) → lv_has ls maxL (lv_args 0 av) → W p l e rm s m av.toArray below meth c s.heap [] 0 0 (MQ below (Qf A) av.toArray s mc ms A) (F0 m 0 ls [])) :
    Met l y ws rm (va_Pc av (cx_B D cl tys nw sz wc)) (Qf (va_A wc sz)) mc ms (va_A wc sz) := by
  refine Met.ofW (cc := cc) (maxL := maxL) (ret := ret) hy hw ?_
  intro p e s m args below meth c s₁ B hml hv
  obtain ⟨rfl, rfl, hP, hK, hD0, hN⟩ := hv
  have hl := lv_entry av (n := maxL) hn
  rw [lg_entry_eq]
  generalize (lg_sl av ++ List.replicate (maxL - (lg_sl av).length) Slot.unset).toArray = ls at hl ⊢
  exact body p e s m below meth c ls (va_A wc s.heap.size) B.exec B.bytes B.returns hml (fun w h => atoms_spec (ws := ws) B.pre w (by rw [hw]; exact List.mem_cons_of_mem _ h)) (findClass_of_methodNamed B.named) B.notSynchronized (name_of_methodNamed B.named B.method).1 hP hK (hD0.self) hN va_S.rf (fun q h => Or.inr h) hl
section CX2
variable {p : Program} {l : Launch} {e : Env} {R : Room} {s : State} {m : MethodId} {args : Array Value} {below : List Frame} {meth : Method} {c : Code} {H : Heap} {locs : List Loc} {cells slots : Nat} {Q : State → Prop}
variable {cc : ByteArray} {pc : Nat} {ls : Array Slot} {rest st0 : List Value} {D : va_G} {cl : List vw_C} {A : Nat → Prop} {tys : List (ClassId × FieldType)} {nw : List Cond} {ws wc wr : va_W} {H0 : Heap}
theorem cx_iret {S : Type} {post : Int32 → S → Prop} {wn : S → va_W} (hx : p.tables.exec = Jvm.exec) (hb : c.code = cc) (hr : meth.sig.returnType = some .int) (hlocks : meth.locks = false) (u : S) {v : Int32} (hq : post v u) (hP : va_P D cl (wn u) H) (hD : va_D A (wn u)) (hS : va_S A s.heap H locs) (hdg : decode cc pc = .ok (.ireturn, 1)) :
    W p l e R s m args below meth c H locs cells slots (MQ below (cxI D cl post wn A) args s cells slots A) (F0 m pc ls [.int v]) :=
  W.iret hx hb hr (fun t ht _ => ⟨⟨v, u, rfl, hq, by rw [ht]; exact hP, hD⟩, hS.F ht⟩) hS.2.2 hdg hlocks
theorem cx_zret {S : Type} {post : Int32 → S → Prop} {wn : S → va_W} (hx : p.tables.exec = Jvm.exec) (hb : c.code = cc) (hr : meth.sig.returnType = some .boolean) (hlocks : meth.locks = false) (u : S) {v : Int32} (hv : v = 0 ∨ v = 1) (hq : post v u) (hP : va_P D cl (wn u) H) (hD : va_D A (wn u)) (hS : va_S A s.heap H locs) (hdg : decode cc pc = .ok (.ireturn, 1)) :
    W p l e R s m args below meth c H locs cells slots (MQ below (cxI D cl post wn A) args s cells slots A) (F0 m pc ls [.int v]) :=
  W.zret hx hb hr (by rcases hv with rfl | rfl <;> rfl) (fun t ht _ => ⟨⟨v, u, rfl, hq, by rw [ht]; exact hP, hD⟩, hS.F ht⟩) hS.2.2 hdg hlocks
theorem cx_vret {S : Type} {post : S → Prop} {wn : S → va_W} (hx : p.tables.exec = Jvm.exec) (hb : c.code = cc) (hr : meth.sig.returnType = none) (hlocks : meth.locks = false) (u : S) (hq : post u) (hP : va_P D cl (wn u) H) (hD : va_D A (wn u)) (hS : va_S A s.heap H locs) (hdg : decode cc pc = .ok (.return_, 1)) :
    W p l e R s m args below meth c H locs cells slots (MQ below (cxV D cl post wn A) args s cells slots A) (F0 m pc ls []) :=
  W.vret hx hb hr (fun t ht _ => ⟨⟨u, rfl, hq, by rw [ht]; exact hP, hD⟩, hS.F ht⟩) hS.2.2 hdg hlocks
theorem cx_lret {S : Type} {post : Int64 → S → Prop} {wn : S → va_W} (hx : p.tables.exec = Jvm.exec) (hb : c.code = cc) (hr : meth.sig.returnType = some .long) (hlocks : meth.locks = false) (u : S) {v : Int64} (hq : post v u) (hP : va_P D cl (wn u) H) (hD : va_D A (wn u)) (hS : va_S A s.heap H locs) (hdg : decode cc pc = .ok (.lreturn, 1)) :
    W p l e R s m args below meth c H locs cells slots (MQ below (cxL D cl post wn A) args s cells slots A) (F0 m pc ls [.long v]) :=
  W.lret hx hb hr (fun t ht _ => ⟨⟨v, u, rfl, hq, by rw [ht]; exact hP, hD⟩, hS.F ht⟩) hS.2.2 hdg hlocks
/-- what a callee finds at its start -/
theorem cx_pS {av : List Value} (hnw : nw.all cx_isN = true) (hK : va_K D cl tys s) (hN : cx_N nw s) (hP : va_P D cl ws H) (hD : va_D A ws) (isC : List Nat) (hnC : va_nd isC = true) (hC : isC.map (fun i => ws[i]?) = wc.map some) : PreS s H (va_Pc av (cx_B D cl tys nw H.size wc)) av :=
  ⟨cx_blind hnw, fun U hU hW => ⟨rfl, by rw [hU], by rw [hU]; exact cx_sub hP isC hC, va_K.moved hW.alike hK, (hD.sub isC hnC hC).weaken (fun _ _ _ _ => trivial), cx_N.moved hnw hW hN⟩⟩
theorem cx_pV {b q0 ci : Nat} {r : vw_C} {fs As : List Value} (hnw : nw.all cx_isN = true) (hK : va_K D cl tys s) (hN : cx_N nw s) (hP : va_P D cl ws H) (hD : va_D A ws) (isC : List Nat) (hnC : va_nd isC = true) (hC : isC.map (fun i => ws[i]?) = wc.map some) (hc : cl[ci]? = some r) (he : ws[q0]? = some (b, .inr (ci, fs))) : PreV s H r.1 b (va_Pc (.ref b :: As) (cx_B D cl tys nw H.size wc)) As :=
  ⟨cx_blind hnw, va_recv hK hP hc he, fun U hU hW => ⟨rfl, by rw [hU], by rw [hU]; exact cx_sub hP isC hC, va_K.moved hW.alike hK, (hD.sub isC hnC hC).weaken (fun _ _ _ _ => trivial), cx_N.moved hnw hW hN⟩⟩
/-- behind a call: the callee's cells as it left them, at their places -/
theorem cx_cI {S : Type} {post : Int32 → S → Prop} {wn ws2 : S → va_W} {a : Array Value} (hr : va_Run p l e R s m args below meth c H locs cells slots 0 0 (F0 m pc ls st0) rest (cxI D cl post wn (va_A wc H.size) a) (va_A wc H.size)) (hP : va_P D cl ws H) (hD : va_D A ws) (hS : va_S A H0 H locs) (hA : ∀ q, H0.size ≤ q → A q)
    (isC isR pm : List Nat) (hC : isC.map (fun i => ws[i]?) = wc.map some) (hR : isR.map (fun i => ws[i]?) = wr.map some) (hn : va_nd isR = true) (hdis : ∀ i ∈ isR, i ∉ isC) (hpm : ∀ u, pm.map (fun i => (wr ++ wn u)[i]?) = (ws2 u).map some) (hpn : va_nd pm = true)
    (kk : ∀ (r : Int32) (u : S) (H1 : Heap) (locs1 : List Loc), post r u → va_P D cl (ws2 u) H1 → va_D A (ws2 u) → va_S A H0 H1 locs1 → W p l e R s m args below meth c H1 locs1 cells slots Q (F0 m (pc + 3) ls (.int r :: rest))) : W p l e R s m args below meth c H locs cells slots Q (F0 m pc ls st0) := by
  have hFc := va_free (wc := wc) hD hS hA isC hC
  refine va_calli hr hS (fun q _ h => hFc q h) hFc (fun r u t H1 locs1 ht hvm hq hB hz hk hS1 => ?_)
  obtain ⟨hP1, hD1⟩ := hB
  rw [ht] at hP1
  obtain ⟨hP2, hD2⟩ := va_join (wr := wr) (w1 := wn u) hP hD isC isR hC hR hn hdis hk hFc hP1 hD1
  exact kk r u H1 locs1 hq (cx_sub hP2 pm (hpm u)) (hD2.sub pm hpn (hpm u)) hS1
theorem cx_cV {S : Type} {post : S → Prop} {wn ws2 : S → va_W} {a : Array Value} (hr : va_Run p l e R s m args below meth c H locs cells slots 0 0 (F0 m pc ls st0) rest (cxV D cl post wn (va_A wc H.size) a) (va_A wc H.size)) (hP : va_P D cl ws H) (hD : va_D A ws) (hS : va_S A H0 H locs) (hA : ∀ q, H0.size ≤ q → A q)
    (isC isR pm : List Nat) (hC : isC.map (fun i => ws[i]?) = wc.map some) (hR : isR.map (fun i => ws[i]?) = wr.map some) (hn : va_nd isR = true) (hdis : ∀ i ∈ isR, i ∉ isC) (hpm : ∀ u, pm.map (fun i => (wr ++ wn u)[i]?) = (ws2 u).map some) (hpn : va_nd pm = true)
    (kk : ∀ (u : S) (H1 : Heap) (locs1 : List Loc), post u → va_P D cl (ws2 u) H1 → va_D A (ws2 u) → va_S A H0 H1 locs1 → W p l e R s m args below meth c H1 locs1 cells slots Q (F0 m (pc + 3) ls rest)) : W p l e R s m args below meth c H locs cells slots Q (F0 m pc ls st0) := by
  have hFc := va_free (wc := wc) hD hS hA isC hC
  refine va_callv hr hS (fun q _ h => hFc q h) hFc (fun u t H1 locs1 ht hvm hq hB hz hk hS1 => ?_)
  obtain ⟨hP1, hD1⟩ := hB
  rw [ht] at hP1
  obtain ⟨hP2, hD2⟩ := va_join (wr := wr) (w1 := wn u) hP hD isC isR hC hR hn hdis hk hFc hP1 hD1
  exact kk u H1 locs1 hq (cx_sub hP2 pm (hpm u)) (hD2.sub pm hpn (hpm u)) hS1
theorem cx_cL {S : Type} {post : Int64 → S → Prop} {wn ws2 : S → va_W} {a : Array Value} (hr : va_Run p l e R s m args below meth c H locs cells slots 0 0 (F0 m pc ls st0) rest (cxL D cl post wn (va_A wc H.size) a) (va_A wc H.size)) (hP : va_P D cl ws H) (hD : va_D A ws) (hS : va_S A H0 H locs) (hA : ∀ q, H0.size ≤ q → A q)
    (isC isR pm : List Nat) (hC : isC.map (fun i => ws[i]?) = wc.map some) (hR : isR.map (fun i => ws[i]?) = wr.map some) (hn : va_nd isR = true) (hdis : ∀ i ∈ isR, i ∉ isC) (hpm : ∀ u, pm.map (fun i => (wr ++ wn u)[i]?) = (ws2 u).map some) (hpn : va_nd pm = true)
    (kk : ∀ (r : Int64) (u : S) (H1 : Heap) (locs1 : List Loc), post r u → va_P D cl (ws2 u) H1 → va_D A (ws2 u) → va_S A H0 H1 locs1 → W p l e R s m args below meth c H1 locs1 cells slots Q (F0 m (pc + 3) ls (.long r :: rest))) : W p l e R s m args below meth c H locs cells slots Q (F0 m pc ls st0) := by
  have hFc := va_free (wc := wc) hD hS hA isC hC
  refine va_calll hr hS (fun q _ h => hFc q h) hFc (fun r u t H1 locs1 ht hvm hq hB hz hk hS1 => ?_)
  obtain ⟨hP1, hD1⟩ := hB
  rw [ht] at hP1
  obtain ⟨hP2, hD2⟩ := va_join (wr := wr) (w1 := wn u) hP hD isC isR hC hR hn hdis hk hFc hP1 hD1
  exact kk r u H1 locs1 hq (cx_sub hP2 pm (hpm u)) (hD2.sub pm hpn (hpm u)) hS1
/-- an int array, read and written -/
theorem cx_iald {a : Nat} (hx : p.tables.exec = Jvm.exec) (hb : c.code = cc) (hK : va_K D cl tys s) (hP : va_P D cl ws H) (q0 t0 : Nat) {cA : ClassId} {n : Nat} {g : Int → Int32} (ha : ws[q0]? = some (a, .inl (cA, n, .inl (fun j : Nat => g (j : Int))))) (ht : tys[t0]? = some (cA, .int)) {z : Int} (hz : 0 ≤ z ∧ z < n) (hn : n < 2147483648) (hdg : decode cc pc = .ok (.iaload, 1))
    (kk : W p l e R s m args below meth c H locs cells slots Q (F0 m (pc + 1) ls (.int (g z) :: rest))) : W p l e R s m args below meth c H locs cells slots Q (F0 m pc ls (.int (iI z) :: .ref a :: rest)) := by
  refine va_iald hx hb hK hP q0 t0 ha ht (iI_in hz hn) hdg ?_
  rw [iI_clamp (by omega)]
  show W p l e R s m args below meth c H locs cells slots Q (F0 m (pc + 1) ls (.int (g (z.toNat : Int)) :: rest))
  rw [Int.toNat_of_nonneg hz.1]
  exact kk
theorem cx_bald {a : Nat} (hx : p.tables.exec = Jvm.exec) (hb : c.code = cc) (hK : va_K D cl tys s) (hP : va_P D cl ws H) (q0 t0 : Nat) {cA : ClassId} {n : Nat} {g : Int → Int32} (ha : ws[q0]? = some (a, .inl (cA, n, .inl (fun j : Nat => g (j : Int))))) (ht : tys[t0]? = some (cA, .byte)) {z : Int} (hz : 0 ≤ z ∧ z < n) (hn : n < 2147483648) (hdg : decode cc pc = .ok (.baload, 1))
    (kk : W p l e R s m args below meth c H locs cells slots Q (F0 m (pc + 1) ls (.int (g z) :: rest))) : W p l e R s m args below meth c H locs cells slots Q (F0 m pc ls (.int (iI z) :: .ref a :: rest)) := by
  refine va_bald hx hb hK hP q0 t0 ha ht (iI_in hz hn) hdg ?_
  rw [iI_clamp (by omega)]
  show W p l e R s m args below meth c H locs cells slots Q (F0 m (pc + 1) ls (.int (g (z.toNat : Int)) :: rest))
  rw [Int.toNat_of_nonneg hz.1]
  exact kk
theorem cx_zald {a : Nat} (hx : p.tables.exec = Jvm.exec) (hb : c.code = cc) (hK : va_K D cl tys s) (hP : va_P D cl ws H) (q0 t0 : Nat) {cA : ClassId} {n : Nat} {g : Int → Int32} (ha : ws[q0]? = some (a, .inl (cA, n, .inl (fun j : Nat => g (j : Int))))) (ht : tys[t0]? = some (cA, .boolean)) {z : Int} (hz : 0 ≤ z ∧ z < n) (hn : n < 2147483648) (hdg : decode cc pc = .ok (.baload, 1))
    (kk : W p l e R s m args below meth c H locs cells slots Q (F0 m (pc + 1) ls (.int (g z) :: rest))) : W p l e R s m args below meth c H locs cells slots Q (F0 m pc ls (.int (iI z) :: .ref a :: rest)) := by
  refine va_zald hx hb hK hP q0 t0 ha ht (iI_in hz hn) hdg ?_
  rw [iI_clamp (by omega)]
  show W p l e R s m args below meth c H locs cells slots Q (F0 m (pc + 1) ls (.int (g (z.toNat : Int)) :: rest))
  rw [Int.toNat_of_nonneg hz.1]
  exact kk
theorem cx_iast {a : Nat} (hx : p.tables.exec = Jvm.exec) (hb : c.code = cc) (hK : va_K D cl tys s) (hP : va_P D cl ws H) (hD : va_D A ws) (hS : va_S A H0 H locs) (q0 t0 : Nat) {cA : ClassId} {n : Nat} {g g' : Int → Int32} (ha : ws[q0]? = some (a, .inl (cA, n, .inl (fun j : Nat => g (j : Int))))) (ht : tys[t0]? = some (cA, .int)) {z : Int} {x : Int32} (hz : 0 ≤ z ∧ z < n) (hn : n < 2147483648) (hg : ∀ j : Int, fu g z x j = g' j) (hdg : decode cc pc = .ok (.iastore, 1))
    (kk : ∀ (H1 : Heap) (locs1 : List Loc), va_P D cl (ws.set q0 (a, .inl (cA, n, .inl (fun j : Nat => g' (j : Int))))) H1 → va_D A (ws.set q0 (a, .inl (cA, n, .inl (fun j : Nat => g' (j : Int))))) → va_S A H0 H1 locs1 → W p l e R s m args below meth c H1 locs1 cells slots Q (F0 m (pc + 1) ls rest)) : W p l e R s m args below meth c H locs cells slots Q (F0 m pc ls (.int x :: .int (iI z) :: .ref a :: rest)) := by
  refine va_iast hx hb hK hP hD hS q0 t0 ha ht (iI_in hz hn) hdg (fun H1 locs1 => ?_)
  rw [iI_clamp (by omega), fu_upd hz.1, show (fun j : Nat => fu g z x (j : Int)) = fun j : Nat => g' (j : Int) from funext fun j => hg j]
  exact kk H1 locs1
end CX2
section CX3
variable {l : Launch} {y : MethodName} {ws ws' : List Cond} {rm : Room} {D : va_G} {cl : List vw_C} {tys : List (ClassId × FieldType)} {nw : List Cond} {sz : Nat} {wc : va_W} {av : List Value} {cc : ByteArray} {maxL : Nat}
/-- contracts of methods that make nothing; their answer an int, a boolean, nothing, a long -/
abbrev MI (l : Launch) (y : MethodName) (ws : List Cond) (rm : Room) (D : va_G) (cl : List vw_C) (tys : List (ClassId × FieldType)) (nw : List Cond) (sz : Nat) (av : List Value) (wc : va_W) {S : Type} (post : Int32 → S → Prop) (wn : S → va_W) : Prop := Met l y ws rm (va_Pc av (cx_B D cl tys nw sz wc)) (cxI D cl post wn (va_A wc sz)) 0 0 (va_A wc sz)
abbrev MV (l : Launch) (y : MethodName) (ws : List Cond) (rm : Room) (D : va_G) (cl : List vw_C) (tys : List (ClassId × FieldType)) (nw : List Cond) (sz : Nat) (av : List Value) (wc : va_W) {S : Type} (post : S → Prop) (wn : S → va_W) : Prop := Met l y ws rm (va_Pc av (cx_B D cl tys nw sz wc)) (cxV D cl post wn (va_A wc sz)) 0 0 (va_A wc sz)
abbrev ML (l : Launch) (y : MethodName) (ws : List Cond) (rm : Room) (D : va_G) (cl : List vw_C) (tys : List (ClassId × FieldType)) (nw : List Cond) (sz : Nat) (av : List Value) (wc : va_W) {S : Type} (post : Int64 → S → Prop) (wn : S → va_W) : Prop := Met l y ws rm (va_Pc av (cx_B D cl tys nw sz wc)) (cxL D cl post wn (va_A wc sz)) 0 0 (va_A wc sz)
theorem cx_inI {S : Type} {post : Int32 → S → Prop} {wn : S → va_W} (hy : plainName y.cls = true) (hw : ws = Cond.code y cc maxL (some .int) :: ws') (hn : (lg_sl av).length ≤ maxL)
    (body : ∀ (p : Program) (e : Env) (s : State) (m : MethodId) (below : List Frame) (meth : Method) (c : Code) (ls : Array Slot) (A : Nat → Prop) (Q : State → Prop), p.tables.exec = Jvm.exec → c.code = cc → c.maxLocals = maxL → (∀ w ∈ ws', w.before av.toArray s = true) → s.vm.findClass y.cls = some m.cls →
      (∀ {H : Heap} {locs : List Loc} {ls : Array Slot} {pc : Nat} {v : Int32} (u : S), post v u → va_P D cl (wn u) H → va_D A (wn u) → va_S A s.heap H locs → decode cc pc = .ok (.ireturn, 1) → W p l e rm s m av.toArray below meth c H locs 0 0 Q (F0 m pc ls [.int v])) →
      va_P D cl wc s.heap → va_K D cl tys s → va_D A wc → cx_N nw s → va_S A s.heap s.heap [] → (∀ q : Nat, s.heap.size ≤ q → A q) → lv_has ls maxL (lv_args 0 av) → W p l e rm s m av.toArray below meth c s.heap [] 0 0 Q (F0 m 0 ls [])) :
    MI l y ws rm D cl tys nw sz av wc post wn :=
  cx_in (Qf := fun A => cxI D cl post wn A) hy hw hn (fun p e s m below meth c ls A hx hb hr hml hts hown hlocks _ hP hK hD hN hS hA hl => body p e s m below meth c ls A _ hx hb hml hts hown (fun u hq hP hD hS hdg => cx_iret hx hb hr hlocks u hq hP hD hS hdg) hP hK hD hN hS hA hl)
theorem cx_inZ {S : Type} {post : Int32 → S → Prop} {wn : S → va_W} (hy : plainName y.cls = true) (hw : ws = Cond.code y cc maxL (some .boolean) :: ws') (hn : (lg_sl av).length ≤ maxL)
    (body : ∀ (p : Program) (e : Env) (s : State) (m : MethodId) (below : List Frame) (meth : Method) (c : Code) (ls : Array Slot) (A : Nat → Prop) (Q : State → Prop), p.tables.exec = Jvm.exec → c.code = cc → c.maxLocals = maxL → (∀ w ∈ ws', w.before av.toArray s = true) → s.vm.findClass y.cls = some m.cls →
      (∀ {H : Heap} {locs : List Loc} {ls : Array Slot} {pc : Nat} {v : Int32} (u : S), (v = iI 0 ∨ v = iI 1) → post v u → va_P D cl (wn u) H → va_D A (wn u) → va_S A s.heap H locs → decode cc pc = .ok (.ireturn, 1) → W p l e rm s m av.toArray below meth c H locs 0 0 Q (F0 m pc ls [.int v])) →
      va_P D cl wc s.heap → va_K D cl tys s → va_D A wc → cx_N nw s → va_S A s.heap s.heap [] → (∀ q : Nat, s.heap.size ≤ q → A q) → lv_has ls maxL (lv_args 0 av) → W p l e rm s m av.toArray below meth c s.heap [] 0 0 Q (F0 m 0 ls [])) :
    MI l y ws rm D cl tys nw sz av wc post wn :=
  cx_in (Qf := fun A => cxI D cl post wn A) hy hw hn (fun p e s m below meth c ls A hx hb hr hml hts hown hlocks _ hP hK hD hN hS hA hl => body p e s m below meth c ls A _ hx hb hml hts hown (fun u hv hq hP hD hS hdg => cx_zret hx hb hr hlocks u hv hq hP hD hS hdg) hP hK hD hN hS hA hl)
theorem cx_inV {S : Type} {post : S → Prop} {wn : S → va_W} (hy : plainName y.cls = true) (hw : ws = Cond.code y cc maxL none :: ws') (hn : (lg_sl av).length ≤ maxL)
    (body : ∀ (p : Program) (e : Env) (s : State) (m : MethodId) (below : List Frame) (meth : Method) (c : Code) (ls : Array Slot) (A : Nat → Prop) (Q : State → Prop), p.tables.exec = Jvm.exec → c.code = cc → c.maxLocals = maxL → (∀ w ∈ ws', w.before av.toArray s = true) → s.vm.findClass y.cls = some m.cls →
      (∀ {H : Heap} {locs : List Loc} {ls : Array Slot} {pc : Nat} (u : S), post u → va_P D cl (wn u) H → va_D A (wn u) → va_S A s.heap H locs → decode cc pc = .ok (.return_, 1) → W p l e rm s m av.toArray below meth c H locs 0 0 Q (F0 m pc ls [])) →
      va_P D cl wc s.heap → va_K D cl tys s → va_D A wc → cx_N nw s → va_S A s.heap s.heap [] → (∀ q : Nat, s.heap.size ≤ q → A q) → lv_has ls maxL (lv_args 0 av) → W p l e rm s m av.toArray below meth c s.heap [] 0 0 Q (F0 m 0 ls [])) :
    MV l y ws rm D cl tys nw sz av wc post wn :=
  cx_in (Qf := fun A => cxV D cl post wn A) hy hw hn (fun p e s m below meth c ls A hx hb hr hml hts hown hlocks _ hP hK hD hN hS hA hl => body p e s m below meth c ls A _ hx hb hml hts hown (fun u hq hP hD hS hdg => cx_vret hx hb hr hlocks u hq hP hD hS hdg) hP hK hD hN hS hA hl)
theorem cx_inL {S : Type} {post : Int64 → S → Prop} {wn : S → va_W} (hy : plainName y.cls = true) (hw : ws = Cond.code y cc maxL (some .long) :: ws') (hn : (lg_sl av).length ≤ maxL)
    (body : ∀ (p : Program) (e : Env) (s : State) (m : MethodId) (below : List Frame) (meth : Method) (c : Code) (ls : Array Slot) (A : Nat → Prop) (Q : State → Prop), p.tables.exec = Jvm.exec → c.code = cc → c.maxLocals = maxL → (∀ w ∈ ws', w.before av.toArray s = true) → s.vm.findClass y.cls = some m.cls →
      (∀ {H : Heap} {locs : List Loc} {ls : Array Slot} {pc : Nat} {v : Int64} (u : S), post v u → va_P D cl (wn u) H → va_D A (wn u) → va_S A s.heap H locs → decode cc pc = .ok (.lreturn, 1) → W p l e rm s m av.toArray below meth c H locs 0 0 Q (F0 m pc ls [.long v])) →
      va_P D cl wc s.heap → va_K D cl tys s → va_D A wc → cx_N nw s → va_S A s.heap s.heap [] → (∀ q : Nat, s.heap.size ≤ q → A q) → lv_has ls maxL (lv_args 0 av) → W p l e rm s m av.toArray below meth c s.heap [] 0 0 Q (F0 m 0 ls [])) :
    ML l y ws rm D cl tys nw sz av wc post wn :=
  cx_in (Qf := fun A => cxL D cl post wn A) hy hw hn (fun p e s m below meth c ls A hx hb hr hml hts hown hlocks _ hP hK hD hN hS hA hl => body p e s m below meth c ls A _ hx hb hml hts hown (fun u hq hP hD hS hdg => cx_lret hx hb hr hlocks u hq hP hD hS hdg) hP hK hD hN hS hA hl)
end CX3
end
section
/-! bits of a cell: a character c and a word mark m -/
theorem bt_all : ∀ k : Fin 64, ∀ j : Fin 2, (iI ((k.val : Int) + 64 * (j.val : Int)) &&& iI 63 = iI (k.val : Int)) ∧ (iI ((k.val : Int) + 64 * (j.val : Int)) &&& iI 64 = iI (64 * (j.val : Int))) ∧ (iI ((k.val : Int) + 64 * (j.val : Int)) &&& iI 48 = iI ((k.val : Int) / 16 * 16)) ∧ (iI ((k.val : Int) + 64 * (j.val : Int)) &&& iI 15 = iI ((k.val : Int) % 16)) ∧ (iI (64 * (j.val : Int)) ||| iI (k.val : Int) = iI ((k.val : Int) + 64 * (j.val : Int))) ∧ (iI (k.val : Int) ||| iI (64 * (j.val : Int)) = iI ((k.val : Int) + 64 * (j.val : Int))) := by decide +kernel
theorem bt_one {c m : Int} (hc : 0 ≤ c ∧ c < 64) (hm : m = 0 ∨ m = 1) : (iI (c + 64 * m) &&& iI 63 = iI c) ∧ (iI (c + 64 * m) &&& iI 64 = iI (64 * m)) ∧ (iI (c + 64 * m) &&& iI 48 = iI (c / 16 * 16)) ∧ (iI (c + 64 * m) &&& iI 15 = iI (c % 16)) ∧ (iI (64 * m) ||| iI c = iI (c + 64 * m)) ∧ (iI c ||| iI (64 * m) = iI (c + 64 * m)) := by
  obtain ⟨k, rfl⟩ := Int.eq_ofNat_of_zero_le hc.1
  rcases hm with rfl | rfl
  · exact bt_all ⟨k, by omega⟩ 0
  · exact bt_all ⟨k, by omega⟩ 1
theorem bt_63 {c m : Int} (hc : 0 ≤ c ∧ c < 64) (hm : m = 0 ∨ m = 1) : iI (c + 64 * m) &&& iI 63 = iI c := (bt_one hc hm).1
theorem bt_64 {c m : Int} (hc : 0 ≤ c ∧ c < 64) (hm : m = 0 ∨ m = 1) : iI (c + 64 * m) &&& iI 64 = iI (64 * m) := (bt_one hc hm).2.1
theorem bt_48 {c m : Int} (hc : 0 ≤ c ∧ c < 64) (hm : m = 0 ∨ m = 1) : iI (c + 64 * m) &&& iI 48 = iI (c / 16 * 16) := (bt_one hc hm).2.2.1
theorem bt_15 {c m : Int} (hc : 0 ≤ c ∧ c < 64) (hm : m = 0 ∨ m = 1) : iI (c + 64 * m) &&& iI 15 = iI (c % 16) := (bt_one hc hm).2.2.2.1
theorem bt_mo {c m : Int} (hc : 0 ≤ c ∧ c < 64) (hm : m = 0 ∨ m = 1) : iI (64 * m) ||| iI c = iI (c + 64 * m) := (bt_one hc hm).2.2.2.2.1
theorem bt_om {c : Int} (hc : 0 ≤ c ∧ c < 64) : iI c ||| iI 64 = iI (c + 64 * 1) := (bt_one hc (Or.inr rfl)).2.2.2.2.2
theorem bt_c48 {c : Int} (hc : 0 ≤ c ∧ c < 64) : iI c &&& iI 48 = iI (c / 16 * 16) := by
  have h := bt_48 hc (Or.inl rfl)
  rwa [Int.mul_zero, Int.add_zero] at h
theorem bt_c15 {c : Int} (hc : 0 ≤ c ∧ c < 64) : iI c &&& iI 15 = iI (c % 16) := by
  have h := bt_15 hc (Or.inl rfl)
  rwa [Int.mul_zero, Int.add_zero] at h
theorem bt_dzA : ∀ d : Fin 16, ∀ z : Fin 4, iI (d.val : Int) ||| iI (16 * (z.val : Int)) = iI ((d.val : Int) + 16 * (z.val : Int)) := by decide +kernel
theorem bt_dz {d z : Int} (hd : 0 ≤ d ∧ d < 16) (hz : 0 ≤ z ∧ z < 4) : iI d ||| iI (16 * z) = iI (d + 16 * z) := by
  obtain ⟨k, rfl⟩ := Int.eq_ofNat_of_zero_le hd.1
  obtain ⟨j, rfl⟩ := Int.eq_ofNat_of_zero_le hz.1
  exact bt_dzA ⟨k, by omega⟩ ⟨j, by omega⟩
/-! a span to the left of b, k places, written anew -/
def spn (f : Int → Int) (b k : Int) (F : Int → Int) : Int → Int := fun j => if b - k < j ∧ j ≤ b then F (b - j) else f j
theorem spn_0 (f : Int → Int) (b : Int) (F : Int → Int) : spn f b 0 F = f := by
  funext j
  unfold spn
  rw [if_neg (by omega)]
theorem spn_step {f F : Int → Int} {b k v : Int} (hk : 0 ≤ k) (h : F k = v) : fu (spn f b k F) (b - k) v = spn f b (k + 1) F := by
  funext j
  unfold fu spn
  by_cases hj : j = b - k
  · rw [if_pos hj, if_pos (by omega), hj, show b - (b - k) = k by omega, h]
  · rw [if_neg hj]
    by_cases hq : b - k < j ∧ j ≤ b
    · rw [if_pos hq, if_pos (by omega)]
    · rw [if_neg hq, if_neg (by omega)]
theorem spn_out {f F : Int → Int} {b k j : Int} (h : j ≤ b - k ∨ b < j) : spn f b k F j = f j := by
  unfold spn
  rw [if_neg (by omega)]
theorem spn_in {f F : Int → Int} {b k j : Int} (h : 0 ≤ j ∧ j < k) : spn f b k F (b - j) = F j := by
  unfold spn
  rw [if_pos (by omega), show b - (b - j) = j by omega]
/-! lengths of fields; 0: none. n: the store's size, mk: its marks -/
def fld (n : Int) (mk : Int → Int) (u most : Int) : Nat → Int → Int
  | 0, _ => 0
  | k + 1, j => if 0 ≤ u - j + 1 ∧ u - j + 1 < n then (if j = most ∨ mk (u - j + 1) = 1 then j else fld n mk u most k (j + 1)) else 0
def cmn (n : Int) (mk : Int → Int) (a b : Int) : Nat → Int → Int
  | 0, _ => 0
  | k + 1, j => if (0 ≤ a - j + 1 ∧ a - j + 1 < n) ∧ (0 ≤ b - j + 1 ∧ b - j + 1 < n) then (if mk (a - j + 1) = 1 ∨ mk (b - j + 1) = 1 then j else cmn n mk a b k (j + 1)) else 0
def ins (n : Int) (mk : Int → Int) (i : Int) : Nat → Int → Int
  | 0, _ => 0
  | k + 1, j => if j ≤ 8 ∧ (0 ≤ i + j ∧ i + j < n) then (if mk (i + j) = 1 then j else ins n mk i k (j + 1)) else 0
/-- a character's value, a digit as it is written, a zone -/
def vl (c : Int) : Int := c % 16 % 10
def wrt (v : Int) : Int := if v = 0 then 10 else v
def zn (c : Int) : Int := c / 16 * 16
end
