section
-- ===== PART A: goes FIRST, ahead of the names: the tables' words, and 'selects' of the private methods out of them =====
/-- a private method of a class that the tables say can be made, by its rows of tables_1 -/
def lw_okq (q : MethodName × Nat) : Prop := (q.1.cls ≠ "java/lang/invoke/MethodHandle" ∧ q.1.cls ≠ "java/lang/invoke/VarHandle") ∧ Cond.instantiable q.1.cls q.2 ∈ tables_1 ∧ Cond.privateMethod q.1 ∈ tables_1 ∧ Cond.instanceMethod q.1 ∈ tables_1
theorem lw_p0 : lw_okq (⟨"java/lang/Throwable", "fillInStackTrace", "(I)Ljava/lang/Throwable;"⟩, 6) := ⟨⟨by decide +kernel, by decide +kernel⟩, List.mem_of_getElem? (i := 254) (by decide +kernel), List.mem_of_getElem? (i := 252) (by decide +kernel), List.mem_of_getElem? (i := 253) (by decide +kernel)⟩
theorem lw_p1 : lw_okq (⟨"CharMachine$Processor", "instructionLength", "()I"⟩, 12) := ⟨⟨by decide +kernel, by decide +kernel⟩, List.mem_of_getElem? (i := 56) (by decide +kernel), List.mem_of_getElem? (i := 327) (by decide +kernel), List.mem_of_getElem? (i := 328) (by decide +kernel)⟩
theorem lw_p2 : lw_okq (⟨"CharMachine$Processor", "takeAddresses", "(II)V"⟩, 12) := ⟨⟨by decide +kernel, by decide +kernel⟩, List.mem_of_getElem? (i := 56) (by decide +kernel), List.mem_of_getElem? (i := 334) (by decide +kernel), List.mem_of_getElem? (i := 335) (by decide +kernel)⟩
theorem lw_p3 : lw_okq (⟨"CharMachine$Processor", "perform", "(III)I"⟩, 12) := ⟨⟨by decide +kernel, by decide +kernel⟩, List.mem_of_getElem? (i := 56) (by decide +kernel), List.mem_of_getElem? (i := 353) (by decide +kernel), List.mem_of_getElem? (i := 354) (by decide +kernel)⟩
theorem lw_p4 : lw_okq (⟨"CharMachine$Processor", "calculate", "(ZZ)I"⟩, 12) := ⟨⟨by decide +kernel, by decide +kernel⟩, List.mem_of_getElem? (i := 56) (by decide +kernel), List.mem_of_getElem? (i := 357) (by decide +kernel), List.mem_of_getElem? (i := 358) (by decide +kernel)⟩
theorem lw_p5 : lw_okq (⟨"CharMachine$Processor", "addSigned", "(IZ)V"⟩, 12) := ⟨⟨by decide +kernel, by decide +kernel⟩, List.mem_of_getElem? (i := 56) (by decide +kernel), List.mem_of_getElem? (i := 400) (by decide +kernel), List.mem_of_getElem? (i := 401) (by decide +kernel)⟩
theorem lw_p6 : lw_okq (⟨"CharMachine$Processor", "move", "()I"⟩, 12) := ⟨⟨by decide +kernel, by decide +kernel⟩, List.mem_of_getElem? (i := 56) (by decide +kernel), List.mem_of_getElem? (i := 417) (by decide +kernel), List.mem_of_getElem? (i := 418) (by decide +kernel)⟩
theorem lw_p7 : lw_okq (⟨"CharMachine$Processor", "load", "()I"⟩, 12) := ⟨⟨by decide +kernel, by decide +kernel⟩, List.mem_of_getElem? (i := 56) (by decide +kernel), List.mem_of_getElem? (i := 429) (by decide +kernel), List.mem_of_getElem? (i := 430) (by decide +kernel)⟩
theorem lw_p8 : lw_okq (⟨"CharMachine$Processor", "moveBits", "(I)I"⟩, 12) := ⟨⟨by decide +kernel, by decide +kernel⟩, List.mem_of_getElem? (i := 56) (by decide +kernel), List.mem_of_getElem? (i := 444) (by decide +kernel), List.mem_of_getElem? (i := 445) (by decide +kernel)⟩
theorem lw_p9 : lw_okq (⟨"CharMachine$Processor", "compare", "()I"⟩, 12) := ⟨⟨by decide +kernel, by decide +kernel⟩, List.mem_of_getElem? (i := 56) (by decide +kernel), List.mem_of_getElem? (i := 448) (by decide +kernel), List.mem_of_getElem? (i := 449) (by decide +kernel)⟩
theorem lw_p10 : lw_okq (⟨"CharMachine$Processor", "orderOf", "(I)I"⟩, 12) := ⟨⟨by decide +kernel, by decide +kernel⟩, List.mem_of_getElem? (i := 56) (by decide +kernel), List.mem_of_getElem? (i := 452) (by decide +kernel), List.mem_of_getElem? (i := 453) (by decide +kernel)⟩
theorem lw_p11 : lw_okq (⟨"CharMachine$Processor", "changeMarks", "(Z)I"⟩, 12) := ⟨⟨by decide +kernel, by decide +kernel⟩, List.mem_of_getElem? (i := 56) (by decide +kernel), List.mem_of_getElem? (i := 462) (by decide +kernel), List.mem_of_getElem? (i := 463) (by decide +kernel)⟩
theorem lw_p12 : lw_okq (⟨"CharMachine$Processor", "clear", "(Z)I"⟩, 12) := ⟨⟨by decide +kernel, by decide +kernel⟩, List.mem_of_getElem? (i := 56) (by decide +kernel), List.mem_of_getElem? (i := 471) (by decide +kernel), List.mem_of_getElem? (i := 472) (by decide +kernel)⟩
theorem lw_p13 : lw_okq (⟨"CharMachine$Processor", "goThere", "()V"⟩, 12) := ⟨⟨by decide +kernel, by decide +kernel⟩, List.mem_of_getElem? (i := 56) (by decide +kernel), List.mem_of_getElem? (i := 476) (by decide +kernel), List.mem_of_getElem? (i := 477) (by decide +kernel)⟩
theorem lw_p14 : lw_okq (⟨"CharMachine$Processor", "suppressZeros", "()I"⟩, 12) := ⟨⟨by decide +kernel, by decide +kernel⟩, List.mem_of_getElem? (i := 56) (by decide +kernel), List.mem_of_getElem? (i := 480) (by decide +kernel), List.mem_of_getElem? (i := 481) (by decide +kernel)⟩
theorem lw_p15 : lw_okq (⟨"CharMachine$Processor", "branch", "(I)I"⟩, 12) := ⟨⟨by decide +kernel, by decide +kernel⟩, List.mem_of_getElem? (i := 56) (by decide +kernel), List.mem_of_getElem? (i := 487) (by decide +kernel), List.mem_of_getElem? (i := 488) (by decide +kernel)⟩
def lw_privs_1 : List (MethodName × Nat) := [(⟨"java/lang/Throwable", "fillInStackTrace", "(I)Ljava/lang/Throwable;"⟩, 6), (⟨"CharMachine$Processor", "instructionLength", "()I"⟩, 12), (⟨"CharMachine$Processor", "takeAddresses", "(II)V"⟩, 12), (⟨"CharMachine$Processor", "perform", "(III)I"⟩, 12), (⟨"CharMachine$Processor", "calculate", "(ZZ)I"⟩, 12), (⟨"CharMachine$Processor", "addSigned", "(IZ)V"⟩, 12), (⟨"CharMachine$Processor", "move", "()I"⟩, 12), (⟨"CharMachine$Processor", "load", "()I"⟩, 12), (⟨"CharMachine$Processor", "moveBits", "(I)I"⟩, 12), (⟨"CharMachine$Processor", "compare", "()I"⟩, 12), (⟨"CharMachine$Processor", "orderOf", "(I)I"⟩, 12), (⟨"CharMachine$Processor", "changeMarks", "(Z)I"⟩, 12), (⟨"CharMachine$Processor", "clear", "(Z)I"⟩, 12), (⟨"CharMachine$Processor", "goThere", "()V"⟩, 12), (⟨"CharMachine$Processor", "suppressZeros", "()I"⟩, 12), (⟨"CharMachine$Processor", "branch", "(I)I"⟩, 12)]
theorem lw_r1 : ∀ q ∈ lw_privs_1, lw_okq q := List.forall_mem_cons.mpr ⟨lw_p0, List.forall_mem_cons.mpr ⟨lw_p1, List.forall_mem_cons.mpr ⟨lw_p2, List.forall_mem_cons.mpr ⟨lw_p3, List.forall_mem_cons.mpr ⟨lw_p4, List.forall_mem_cons.mpr ⟨lw_p5, List.forall_mem_cons.mpr ⟨lw_p6, List.forall_mem_cons.mpr ⟨lw_p7, List.forall_mem_cons.mpr ⟨lw_p8, List.forall_mem_cons.mpr ⟨lw_p9, List.forall_mem_cons.mpr ⟨lw_p10, List.forall_mem_cons.mpr ⟨lw_p11, List.forall_mem_cons.mpr ⟨lw_p12, List.forall_mem_cons.mpr ⟨lw_p13, List.forall_mem_cons.mpr ⟨lw_p14, List.forall_mem_cons.mpr ⟨lw_p15, fun _ h => absurd h List.not_mem_nil⟩⟩⟩⟩⟩⟩⟩⟩⟩⟩⟩⟩⟩⟩⟩⟩
theorem lw_p16 : lw_okq (⟨"CharMachine$Processor", "modifier", "()I"⟩, 12) := ⟨⟨by decide +kernel, by decide +kernel⟩, List.mem_of_getElem? (i := 56) (by decide +kernel), List.mem_of_getElem? (i := 491) (by decide +kernel), List.mem_of_getElem? (i := 492) (by decide +kernel)⟩
theorem lw_p17 : lw_okq (⟨"CharMachine$Processor", "isIndicated", "(I)Z"⟩, 12) := ⟨⟨by decide +kernel, by decide +kernel⟩, List.mem_of_getElem? (i := 56) (by decide +kernel), List.mem_of_getElem? (i := 495) (by decide +kernel), List.mem_of_getElem? (i := 496) (by decide +kernel)⟩
theorem lw_p18 : lw_okq (⟨"CharMachine$Processor", "takeOverflow", "()Z"⟩, 12) := ⟨⟨by decide +kernel, by decide +kernel⟩, List.mem_of_getElem? (i := 56) (by decide +kernel), List.mem_of_getElem? (i := 499) (by decide +kernel), List.mem_of_getElem? (i := 500) (by decide +kernel)⟩
theorem lw_p19 : lw_okq (⟨"CharMachine$Processor", "branchByPosition", "()I"⟩, 12) := ⟨⟨by decide +kernel, by decide +kernel⟩, List.mem_of_getElem? (i := 56) (by decide +kernel), List.mem_of_getElem? (i := 503) (by decide +kernel), List.mem_of_getElem? (i := 504) (by decide +kernel)⟩
theorem lw_p20 : lw_okq (⟨"CharMachine$Processor", "isAsAsked", "(II)Z"⟩, 12) := ⟨⟨by decide +kernel, by decide +kernel⟩, List.mem_of_getElem? (i := 56) (by decide +kernel), List.mem_of_getElem? (i := 507) (by decide +kernel), List.mem_of_getElem? (i := 508) (by decide +kernel)⟩
theorem lw_p21 : lw_okq (⟨"CharMachine$Processor", "readCard", "(Z)I"⟩, 12) := ⟨⟨by decide +kernel, by decide +kernel⟩, List.mem_of_getElem? (i := 56) (by decide +kernel), List.mem_of_getElem? (i := 512) (by decide +kernel), List.mem_of_getElem? (i := 513) (by decide +kernel)⟩
theorem lw_p22 : lw_okq (⟨"CharMachine$Processor", "endTransfer", "(IZ)V"⟩, 12) := ⟨⟨by decide +kernel, by decide +kernel⟩, List.mem_of_getElem? (i := 56) (by decide +kernel), List.mem_of_getElem? (i := 521) (by decide +kernel), List.mem_of_getElem? (i := 522) (by decide +kernel)⟩
theorem lw_p23 : lw_okq (⟨"CharMachine$Processor", "fillRow", "(LCharMachine$Pile;IIZ)I"⟩, 12) := ⟨⟨by decide +kernel, by decide +kernel⟩, List.mem_of_getElem? (i := 56) (by decide +kernel), List.mem_of_getElem? (i := 525) (by decide +kernel), List.mem_of_getElem? (i := 526) (by decide +kernel)⟩
theorem lw_p24 : lw_okq (⟨"CharMachine$Processor", "storeAddress", "(I)I"⟩, 12) := ⟨⟨by decide +kernel, by decide +kernel⟩, List.mem_of_getElem? (i := 56) (by decide +kernel), List.mem_of_getElem? (i := 537) (by decide +kernel), List.mem_of_getElem? (i := 538) (by decide +kernel)⟩
theorem lw_p25 : lw_okq (⟨"CharMachine$Processor", "halt", "(Z)I"⟩, 12) := ⟨⟨by decide +kernel, by decide +kernel⟩, List.mem_of_getElem? (i := 56) (by decide +kernel), List.mem_of_getElem? (i := 549) (by decide +kernel), List.mem_of_getElem? (i := 550) (by decide +kernel)⟩
theorem lw_p26 : lw_okq (⟨"CharMachineModel", "is", "(I)Z"⟩, 28) := ⟨⟨by decide +kernel, by decide +kernel⟩, List.mem_of_getElem? (i := 631) (by decide +kernel), List.mem_of_getElem? (i := 732) (by decide +kernel), List.mem_of_getElem? (i := 733) (by decide +kernel)⟩
theorem lw_p27 : lw_okq (⟨"CharMachineModel", "fetch", "()I"⟩, 28) := ⟨⟨by decide +kernel, by decide +kernel⟩, List.mem_of_getElem? (i := 631) (by decide +kernel), List.mem_of_getElem? (i := 762) (by decide +kernel), List.mem_of_getElem? (i := 763) (by decide +kernel)⟩
theorem lw_p28 : lw_okq (⟨"CharMachineModel", "address", "(I)I"⟩, 28) := ⟨⟨by decide +kernel, by decide +kernel⟩, List.mem_of_getElem? (i := 631) (by decide +kernel), List.mem_of_getElem? (i := 772) (by decide +kernel), List.mem_of_getElem? (i := 773) (by decide +kernel)⟩
theorem lw_p29 : lw_okq (⟨"CharMachineModel", "execute", "()I"⟩, 28) := ⟨⟨by decide +kernel, by decide +kernel⟩, List.mem_of_getElem? (i := 631) (by decide +kernel), List.mem_of_getElem? (i := 779) (by decide +kernel), List.mem_of_getElem? (i := 780) (by decide +kernel)⟩
theorem lw_p30 : lw_okq (⟨"CharMachineModel", "add", "()I"⟩, 28) := ⟨⟨by decide +kernel, by decide +kernel⟩, List.mem_of_getElem? (i := 631) (by decide +kernel), List.mem_of_getElem? (i := 783) (by decide +kernel), List.mem_of_getElem? (i := 784) (by decide +kernel)⟩
theorem lw_p31 : lw_okq (⟨"CharMachineModel", "field", "(II)I"⟩, 28) := ⟨⟨by decide +kernel, by decide +kernel⟩, List.mem_of_getElem? (i := 631) (by decide +kernel), List.mem_of_getElem? (i := 787) (by decide +kernel), List.mem_of_getElem? (i := 788) (by decide +kernel)⟩
def lw_privs_2 : List (MethodName × Nat) := [(⟨"CharMachine$Processor", "modifier", "()I"⟩, 12), (⟨"CharMachine$Processor", "isIndicated", "(I)Z"⟩, 12), (⟨"CharMachine$Processor", "takeOverflow", "()Z"⟩, 12), (⟨"CharMachine$Processor", "branchByPosition", "()I"⟩, 12), (⟨"CharMachine$Processor", "isAsAsked", "(II)Z"⟩, 12), (⟨"CharMachine$Processor", "readCard", "(Z)I"⟩, 12), (⟨"CharMachine$Processor", "endTransfer", "(IZ)V"⟩, 12), (⟨"CharMachine$Processor", "fillRow", "(LCharMachine$Pile;IIZ)I"⟩, 12), (⟨"CharMachine$Processor", "storeAddress", "(I)I"⟩, 12), (⟨"CharMachine$Processor", "halt", "(Z)I"⟩, 12), (⟨"CharMachineModel", "is", "(I)Z"⟩, 28), (⟨"CharMachineModel", "fetch", "()I"⟩, 28), (⟨"CharMachineModel", "address", "(I)I"⟩, 28), (⟨"CharMachineModel", "execute", "()I"⟩, 28), (⟨"CharMachineModel", "add", "()I"⟩, 28), (⟨"CharMachineModel", "field", "(II)I"⟩, 28)]
theorem lw_r2 : ∀ q ∈ lw_privs_2, lw_okq q := List.forall_mem_cons.mpr ⟨lw_p16, List.forall_mem_cons.mpr ⟨lw_p17, List.forall_mem_cons.mpr ⟨lw_p18, List.forall_mem_cons.mpr ⟨lw_p19, List.forall_mem_cons.mpr ⟨lw_p20, List.forall_mem_cons.mpr ⟨lw_p21, List.forall_mem_cons.mpr ⟨lw_p22, List.forall_mem_cons.mpr ⟨lw_p23, List.forall_mem_cons.mpr ⟨lw_p24, List.forall_mem_cons.mpr ⟨lw_p25, List.forall_mem_cons.mpr ⟨lw_p26, List.forall_mem_cons.mpr ⟨lw_p27, List.forall_mem_cons.mpr ⟨lw_p28, List.forall_mem_cons.mpr ⟨lw_p29, List.forall_mem_cons.mpr ⟨lw_p30, List.forall_mem_cons.mpr ⟨lw_p31, fun _ h => absurd h List.not_mem_nil⟩⟩⟩⟩⟩⟩⟩⟩⟩⟩⟩⟩⟩⟩⟩⟩
theorem lw_p32 : lw_okq (⟨"CharMachineModel", "readDigits", "([IIII)V"⟩, 28) := ⟨⟨by decide +kernel, by decide +kernel⟩, List.mem_of_getElem? (i := 631) (by decide +kernel), List.mem_of_getElem? (i := 797) (by decide +kernel), List.mem_of_getElem? (i := 798) (by decide +kernel)⟩
theorem lw_p33 : lw_okq (⟨"CharMachineModel", "writeDigits", "(II)V"⟩, 28) := ⟨⟨by decide +kernel, by decide +kernel⟩, List.mem_of_getElem? (i := 631) (by decide +kernel), List.mem_of_getElem? (i := 801) (by decide +kernel), List.mem_of_getElem? (i := 802) (by decide +kernel)⟩
theorem lw_p34 : lw_okq (⟨"CharMachineModel", "isMore", "(I)Z"⟩, 28) := ⟨⟨by decide +kernel, by decide +kernel⟩, List.mem_of_getElem? (i := 631) (by decide +kernel), List.mem_of_getElem? (i := 808) (by decide +kernel), List.mem_of_getElem? (i := 809) (by decide +kernel)⟩
theorem lw_p35 : lw_okq (⟨"CharMachineModel", "reset", "()I"⟩, 28) := ⟨⟨by decide +kernel, by decide +kernel⟩, List.mem_of_getElem? (i := 631) (by decide +kernel), List.mem_of_getElem? (i := 812) (by decide +kernel), List.mem_of_getElem? (i := 813) (by decide +kernel)⟩
theorem lw_p36 : lw_okq (⟨"CharMachineModel", "move", "()I"⟩, 28) := ⟨⟨by decide +kernel, by decide +kernel⟩, List.mem_of_getElem? (i := 631) (by decide +kernel), List.mem_of_getElem? (i := 816) (by decide +kernel), List.mem_of_getElem? (i := 817) (by decide +kernel)⟩
theorem lw_p37 : lw_okq (⟨"CharMachineModel", "both", "()I"⟩, 28) := ⟨⟨by decide +kernel, by decide +kernel⟩, List.mem_of_getElem? (i := 631) (by decide +kernel), List.mem_of_getElem? (i := 820) (by decide +kernel), List.mem_of_getElem? (i := 821) (by decide +kernel)⟩
theorem lw_p38 : lw_okq (⟨"CharMachineModel", "load", "()I"⟩, 28) := ⟨⟨by decide +kernel, by decide +kernel⟩, List.mem_of_getElem? (i := 631) (by decide +kernel), List.mem_of_getElem? (i := 824) (by decide +kernel), List.mem_of_getElem? (i := 825) (by decide +kernel)⟩
theorem lw_p39 : lw_okq (⟨"CharMachineModel", "part", "()I"⟩, 28) := ⟨⟨by decide +kernel, by decide +kernel⟩, List.mem_of_getElem? (i := 631) (by decide +kernel), List.mem_of_getElem? (i := 828) (by decide +kernel), List.mem_of_getElem? (i := 829) (by decide +kernel)⟩
theorem lw_p40 : lw_okq (⟨"CharMachineModel", "compare", "()I"⟩, 28) := ⟨⟨by decide +kernel, by decide +kernel⟩, List.mem_of_getElem? (i := 631) (by decide +kernel), List.mem_of_getElem? (i := 832) (by decide +kernel), List.mem_of_getElem? (i := 833) (by decide +kernel)⟩
theorem lw_p41 : lw_okq (⟨"CharMachineModel", "marks", "()I"⟩, 28) := ⟨⟨by decide +kernel, by decide +kernel⟩, List.mem_of_getElem? (i := 631) (by decide +kernel), List.mem_of_getElem? (i := 839) (by decide +kernel), List.mem_of_getElem? (i := 840) (by decide +kernel)⟩
theorem lw_p42 : lw_okq (⟨"CharMachineModel", "clear", "()I"⟩, 28) := ⟨⟨by decide +kernel, by decide +kernel⟩, List.mem_of_getElem? (i := 631) (by decide +kernel), List.mem_of_getElem? (i := 843) (by decide +kernel), List.mem_of_getElem? (i := 844) (by decide +kernel)⟩
theorem lw_p43 : lw_okq (⟨"CharMachineModel", "go", "()V"⟩, 28) := ⟨⟨by decide +kernel, by decide +kernel⟩, List.mem_of_getElem? (i := 631) (by decide +kernel), List.mem_of_getElem? (i := 847) (by decide +kernel), List.mem_of_getElem? (i := 848) (by decide +kernel)⟩
theorem lw_p44 : lw_okq (⟨"CharMachineModel", "edit", "()I"⟩, 28) := ⟨⟨by decide +kernel, by decide +kernel⟩, List.mem_of_getElem? (i := 631) (by decide +kernel), List.mem_of_getElem? (i := 851) (by decide +kernel), List.mem_of_getElem? (i := 852) (by decide +kernel)⟩
theorem lw_p45 : lw_okq (⟨"CharMachineModel", "branch", "()I"⟩, 28) := ⟨⟨by decide +kernel, by decide +kernel⟩, List.mem_of_getElem? (i := 631) (by decide +kernel), List.mem_of_getElem? (i := 855) (by decide +kernel), List.mem_of_getElem? (i := 856) (by decide +kernel)⟩
theorem lw_p46 : lw_okq (⟨"CharMachineModel", "modifier", "()I"⟩, 28) := ⟨⟨by decide +kernel, by decide +kernel⟩, List.mem_of_getElem? (i := 631) (by decide +kernel), List.mem_of_getElem? (i := 859) (by decide +kernel), List.mem_of_getElem? (i := 860) (by decide +kernel)⟩
theorem lw_p47 : lw_okq (⟨"CharMachineModel", "branchMark", "()I"⟩, 28) := ⟨⟨by decide +kernel, by decide +kernel⟩, List.mem_of_getElem? (i := 631) (by decide +kernel), List.mem_of_getElem? (i := 863) (by decide +kernel), List.mem_of_getElem? (i := 864) (by decide +kernel)⟩
def lw_privs_3 : List (MethodName × Nat) := [(⟨"CharMachineModel", "readDigits", "([IIII)V"⟩, 28), (⟨"CharMachineModel", "writeDigits", "(II)V"⟩, 28), (⟨"CharMachineModel", "isMore", "(I)Z"⟩, 28), (⟨"CharMachineModel", "reset", "()I"⟩, 28), (⟨"CharMachineModel", "move", "()I"⟩, 28), (⟨"CharMachineModel", "both", "()I"⟩, 28), (⟨"CharMachineModel", "load", "()I"⟩, 28), (⟨"CharMachineModel", "part", "()I"⟩, 28), (⟨"CharMachineModel", "compare", "()I"⟩, 28), (⟨"CharMachineModel", "marks", "()I"⟩, 28), (⟨"CharMachineModel", "clear", "()I"⟩, 28), (⟨"CharMachineModel", "go", "()V"⟩, 28), (⟨"CharMachineModel", "edit", "()I"⟩, 28), (⟨"CharMachineModel", "branch", "()I"⟩, 28), (⟨"CharMachineModel", "modifier", "()I"⟩, 28), (⟨"CharMachineModel", "branchMark", "()I"⟩, 28)]
theorem lw_r3 : ∀ q ∈ lw_privs_3, lw_okq q := List.forall_mem_cons.mpr ⟨lw_p32, List.forall_mem_cons.mpr ⟨lw_p33, List.forall_mem_cons.mpr ⟨lw_p34, List.forall_mem_cons.mpr ⟨lw_p35, List.forall_mem_cons.mpr ⟨lw_p36, List.forall_mem_cons.mpr ⟨lw_p37, List.forall_mem_cons.mpr ⟨lw_p38, List.forall_mem_cons.mpr ⟨lw_p39, List.forall_mem_cons.mpr ⟨lw_p40, List.forall_mem_cons.mpr ⟨lw_p41, List.forall_mem_cons.mpr ⟨lw_p42, List.forall_mem_cons.mpr ⟨lw_p43, List.forall_mem_cons.mpr ⟨lw_p44, List.forall_mem_cons.mpr ⟨lw_p45, List.forall_mem_cons.mpr ⟨lw_p46, List.forall_mem_cons.mpr ⟨lw_p47, fun _ h => absurd h List.not_mem_nil⟩⟩⟩⟩⟩⟩⟩⟩⟩⟩⟩⟩⟩⟩⟩⟩
theorem lw_p48 : lw_okq (⟨"CharMachineModel", "device", "()I"⟩, 28) := ⟨⟨by decide +kernel, by decide +kernel⟩, List.mem_of_getElem? (i := 631) (by decide +kernel), List.mem_of_getElem? (i := 867) (by decide +kernel), List.mem_of_getElem? (i := 868) (by decide +kernel)⟩
theorem lw_p49 : lw_okq (⟨"CharMachineModel", "readCard", "()I"⟩, 28) := ⟨⟨by decide +kernel, by decide +kernel⟩, List.mem_of_getElem? (i := 631) (by decide +kernel), List.mem_of_getElem? (i := 871) (by decide +kernel), List.mem_of_getElem? (i := 872) (by decide +kernel)⟩
theorem lw_p50 : lw_okq (⟨"CharMachineModel", "print", "()I"⟩, 28) := ⟨⟨by decide +kernel, by decide +kernel⟩, List.mem_of_getElem? (i := 631) (by decide +kernel), List.mem_of_getElem? (i := 875) (by decide +kernel), List.mem_of_getElem? (i := 876) (by decide +kernel)⟩
theorem lw_p51 : lw_okq (⟨"CharMachineModel", "punchCard", "()I"⟩, 28) := ⟨⟨by decide +kernel, by decide +kernel⟩, List.mem_of_getElem? (i := 631) (by decide +kernel), List.mem_of_getElem? (i := 879) (by decide +kernel), List.mem_of_getElem? (i := 880) (by decide +kernel)⟩
theorem lw_p52 : lw_okq (⟨"CharMachineModel", "keepRegister", "()I"⟩, 28) := ⟨⟨by decide +kernel, by decide +kernel⟩, List.mem_of_getElem? (i := 631) (by decide +kernel), List.mem_of_getElem? (i := 883) (by decide +kernel), List.mem_of_getElem? (i := 884) (by decide +kernel)⟩
theorem lw_p53 : lw_okq (⟨"CharMachineModel", "stopHere", "()I"⟩, 28) := ⟨⟨by decide +kernel, by decide +kernel⟩, List.mem_of_getElem? (i := 631) (by decide +kernel), List.mem_of_getElem? (i := 887) (by decide +kernel), List.mem_of_getElem? (i := 888) (by decide +kernel)⟩
def lw_privs_4 : List (MethodName × Nat) := [(⟨"CharMachineModel", "device", "()I"⟩, 28), (⟨"CharMachineModel", "readCard", "()I"⟩, 28), (⟨"CharMachineModel", "print", "()I"⟩, 28), (⟨"CharMachineModel", "punchCard", "()I"⟩, 28), (⟨"CharMachineModel", "keepRegister", "()I"⟩, 28), (⟨"CharMachineModel", "stopHere", "()I"⟩, 28)]
theorem lw_r4 : ∀ q ∈ lw_privs_4, lw_okq q := List.forall_mem_cons.mpr ⟨lw_p48, List.forall_mem_cons.mpr ⟨lw_p49, List.forall_mem_cons.mpr ⟨lw_p50, List.forall_mem_cons.mpr ⟨lw_p51, List.forall_mem_cons.mpr ⟨lw_p52, List.forall_mem_cons.mpr ⟨lw_p53, fun _ h => absurd h List.not_mem_nil⟩⟩⟩⟩⟩⟩
def lw_privs : List (MethodName × Nat) := lw_privs_1 ++ (lw_privs_2 ++ (lw_privs_3 ++ (lw_privs_4)))
def lw_tbl : List Cond := k2_sels lw_privs ++ tables_1
theorem lw_privs_ok : ∀ q ∈ lw_privs, lw_okq q := by
  show ∀ q ∈ lw_privs_1 ++ (lw_privs_2 ++ (lw_privs_3 ++ (lw_privs_4))), lw_okq q
  exact List.forall_mem_append.mpr ⟨lw_r1, List.forall_mem_append.mpr ⟨lw_r2, List.forall_mem_append.mpr ⟨lw_r3, lw_r4⟩⟩⟩
end
section
/-! the words of the tables that stay true; each by its place -/
def BIG : List Cond := lw_tbl.filter goodWord
theorem tp_0 : (Jvm.Cond.selects "java/lang/Throwable" ({ cls := "java/lang/Throwable", name := "fillInStackTrace", desc := "(I)Ljava/lang/Throwable;" } : Jvm.MethodName) ({ cls := "java/lang/Throwable", name := "fillInStackTrace", desc := "(I)Ljava/lang/Throwable;" } : Jvm.MethodName)) ∈ BIG := List.mem_filter.mpr ⟨List.mem_of_getElem? (i := 0) (by decide +kernel), by decide +kernel⟩
theorem tp_1 : (Jvm.Cond.selects "CharMachine$Processor" ({ cls := "CharMachine$Processor", name := "instructionLength", desc := "()I" } : Jvm.MethodName) ({ cls := "CharMachine$Processor", name := "instructionLength", desc := "()I" } : Jvm.MethodName)) ∈ BIG := List.mem_filter.mpr ⟨List.mem_of_getElem? (i := 1) (by decide +kernel), by decide +kernel⟩
theorem tp_2 : (Jvm.Cond.selects "CharMachine$Processor" ({ cls := "CharMachine$Processor", name := "takeAddresses", desc := "(II)V" } : Jvm.MethodName) ({ cls := "CharMachine$Processor", name := "takeAddresses", desc := "(II)V" } : Jvm.MethodName)) ∈ BIG := List.mem_filter.mpr ⟨List.mem_of_getElem? (i := 2) (by decide +kernel), by decide +kernel⟩
theorem tp_3 : (Jvm.Cond.selects "CharMachine$Processor" ({ cls := "CharMachine$Processor", name := "perform", desc := "(III)I" } : Jvm.MethodName) ({ cls := "CharMachine$Processor", name := "perform", desc := "(III)I" } : Jvm.MethodName)) ∈ BIG := List.mem_filter.mpr ⟨List.mem_of_getElem? (i := 3) (by decide +kernel), by decide +kernel⟩
theorem tp_4 : (Jvm.Cond.selects "CharMachine$Processor" ({ cls := "CharMachine$Processor", name := "calculate", desc := "(ZZ)I" } : Jvm.MethodName) ({ cls := "CharMachine$Processor", name := "calculate", desc := "(ZZ)I" } : Jvm.MethodName)) ∈ BIG := List.mem_filter.mpr ⟨List.mem_of_getElem? (i := 4) (by decide +kernel), by decide +kernel⟩
theorem tp_5 : (Jvm.Cond.selects "CharMachine$Processor" ({ cls := "CharMachine$Processor", name := "addSigned", desc := "(IZ)V" } : Jvm.MethodName) ({ cls := "CharMachine$Processor", name := "addSigned", desc := "(IZ)V" } : Jvm.MethodName)) ∈ BIG := List.mem_filter.mpr ⟨List.mem_of_getElem? (i := 5) (by decide +kernel), by decide +kernel⟩
theorem tp_6 : (Jvm.Cond.selects "CharMachine$Processor" ({ cls := "CharMachine$Processor", name := "move", desc := "()I" } : Jvm.MethodName) ({ cls := "CharMachine$Processor", name := "move", desc := "()I" } : Jvm.MethodName)) ∈ BIG := List.mem_filter.mpr ⟨List.mem_of_getElem? (i := 6) (by decide +kernel), by decide +kernel⟩
theorem tp_7 : (Jvm.Cond.selects "CharMachine$Processor" ({ cls := "CharMachine$Processor", name := "load", desc := "()I" } : Jvm.MethodName) ({ cls := "CharMachine$Processor", name := "load", desc := "()I" } : Jvm.MethodName)) ∈ BIG := List.mem_filter.mpr ⟨List.mem_of_getElem? (i := 7) (by decide +kernel), by decide +kernel⟩
theorem tp_8 : (Jvm.Cond.selects "CharMachine$Processor" ({ cls := "CharMachine$Processor", name := "moveBits", desc := "(I)I" } : Jvm.MethodName) ({ cls := "CharMachine$Processor", name := "moveBits", desc := "(I)I" } : Jvm.MethodName)) ∈ BIG := List.mem_filter.mpr ⟨List.mem_of_getElem? (i := 8) (by decide +kernel), by decide +kernel⟩
theorem tp_9 : (Jvm.Cond.selects "CharMachine$Processor" ({ cls := "CharMachine$Processor", name := "compare", desc := "()I" } : Jvm.MethodName) ({ cls := "CharMachine$Processor", name := "compare", desc := "()I" } : Jvm.MethodName)) ∈ BIG := List.mem_filter.mpr ⟨List.mem_of_getElem? (i := 9) (by decide +kernel), by decide +kernel⟩
theorem tp_10 : (Jvm.Cond.selects "CharMachine$Processor" ({ cls := "CharMachine$Processor", name := "orderOf", desc := "(I)I" } : Jvm.MethodName) ({ cls := "CharMachine$Processor", name := "orderOf", desc := "(I)I" } : Jvm.MethodName)) ∈ BIG := List.mem_filter.mpr ⟨List.mem_of_getElem? (i := 10) (by decide +kernel), by decide +kernel⟩
theorem tp_11 : (Jvm.Cond.selects "CharMachine$Processor" ({ cls := "CharMachine$Processor", name := "changeMarks", desc := "(Z)I" } : Jvm.MethodName) ({ cls := "CharMachine$Processor", name := "changeMarks", desc := "(Z)I" } : Jvm.MethodName)) ∈ BIG := List.mem_filter.mpr ⟨List.mem_of_getElem? (i := 11) (by decide +kernel), by decide +kernel⟩
theorem tp_12 : (Jvm.Cond.selects "CharMachine$Processor" ({ cls := "CharMachine$Processor", name := "clear", desc := "(Z)I" } : Jvm.MethodName) ({ cls := "CharMachine$Processor", name := "clear", desc := "(Z)I" } : Jvm.MethodName)) ∈ BIG := List.mem_filter.mpr ⟨List.mem_of_getElem? (i := 12) (by decide +kernel), by decide +kernel⟩
theorem tp_13 : (Jvm.Cond.selects "CharMachine$Processor" ({ cls := "CharMachine$Processor", name := "goThere", desc := "()V" } : Jvm.MethodName) ({ cls := "CharMachine$Processor", name := "goThere", desc := "()V" } : Jvm.MethodName)) ∈ BIG := List.mem_filter.mpr ⟨List.mem_of_getElem? (i := 13) (by decide +kernel), by decide +kernel⟩
theorem tp_14 : (Jvm.Cond.selects "CharMachine$Processor" ({ cls := "CharMachine$Processor", name := "suppressZeros", desc := "()I" } : Jvm.MethodName) ({ cls := "CharMachine$Processor", name := "suppressZeros", desc := "()I" } : Jvm.MethodName)) ∈ BIG := List.mem_filter.mpr ⟨List.mem_of_getElem? (i := 14) (by decide +kernel), by decide +kernel⟩
theorem tp_15 : (Jvm.Cond.selects "CharMachine$Processor" ({ cls := "CharMachine$Processor", name := "branch", desc := "(I)I" } : Jvm.MethodName) ({ cls := "CharMachine$Processor", name := "branch", desc := "(I)I" } : Jvm.MethodName)) ∈ BIG := List.mem_filter.mpr ⟨List.mem_of_getElem? (i := 15) (by decide +kernel), by decide +kernel⟩
theorem tp_16 : (Jvm.Cond.selects "CharMachine$Processor" ({ cls := "CharMachine$Processor", name := "modifier", desc := "()I" } : Jvm.MethodName) ({ cls := "CharMachine$Processor", name := "modifier", desc := "()I" } : Jvm.MethodName)) ∈ BIG := List.mem_filter.mpr ⟨List.mem_of_getElem? (i := 16) (by decide +kernel), by decide +kernel⟩
theorem tp_17 : (Jvm.Cond.selects "CharMachine$Processor" ({ cls := "CharMachine$Processor", name := "isIndicated", desc := "(I)Z" } : Jvm.MethodName) ({ cls := "CharMachine$Processor", name := "isIndicated", desc := "(I)Z" } : Jvm.MethodName)) ∈ BIG := List.mem_filter.mpr ⟨List.mem_of_getElem? (i := 17) (by decide +kernel), by decide +kernel⟩
theorem tp_18 : (Jvm.Cond.selects "CharMachine$Processor" ({ cls := "CharMachine$Processor", name := "takeOverflow", desc := "()Z" } : Jvm.MethodName) ({ cls := "CharMachine$Processor", name := "takeOverflow", desc := "()Z" } : Jvm.MethodName)) ∈ BIG := List.mem_filter.mpr ⟨List.mem_of_getElem? (i := 18) (by decide +kernel), by decide +kernel⟩
theorem tp_19 : (Jvm.Cond.selects "CharMachine$Processor" ({ cls := "CharMachine$Processor", name := "branchByPosition", desc := "()I" } : Jvm.MethodName) ({ cls := "CharMachine$Processor", name := "branchByPosition", desc := "()I" } : Jvm.MethodName)) ∈ BIG := List.mem_filter.mpr ⟨List.mem_of_getElem? (i := 19) (by decide +kernel), by decide +kernel⟩
theorem tp_20 : (Jvm.Cond.selects "CharMachine$Processor" ({ cls := "CharMachine$Processor", name := "isAsAsked", desc := "(II)Z" } : Jvm.MethodName) ({ cls := "CharMachine$Processor", name := "isAsAsked", desc := "(II)Z" } : Jvm.MethodName)) ∈ BIG := List.mem_filter.mpr ⟨List.mem_of_getElem? (i := 20) (by decide +kernel), by decide +kernel⟩
theorem tp_21 : (Jvm.Cond.selects "CharMachine$Processor" ({ cls := "CharMachine$Processor", name := "readCard", desc := "(Z)I" } : Jvm.MethodName) ({ cls := "CharMachine$Processor", name := "readCard", desc := "(Z)I" } : Jvm.MethodName)) ∈ BIG := List.mem_filter.mpr ⟨List.mem_of_getElem? (i := 21) (by decide +kernel), by decide +kernel⟩
theorem tp_22 : (Jvm.Cond.selects "CharMachine$Processor" ({ cls := "CharMachine$Processor", name := "endTransfer", desc := "(IZ)V" } : Jvm.MethodName) ({ cls := "CharMachine$Processor", name := "endTransfer", desc := "(IZ)V" } : Jvm.MethodName)) ∈ BIG := List.mem_filter.mpr ⟨List.mem_of_getElem? (i := 22) (by decide +kernel), by decide +kernel⟩
theorem tp_23 : (Jvm.Cond.selects "CharMachine$Processor" ({ cls := "CharMachine$Processor", name := "fillRow", desc := "(LCharMachine$Pile;IIZ)I" } : Jvm.MethodName) ({ cls := "CharMachine$Processor", name := "fillRow", desc := "(LCharMachine$Pile;IIZ)I" } : Jvm.MethodName)) ∈ BIG := List.mem_filter.mpr ⟨List.mem_of_getElem? (i := 23) (by decide +kernel), by decide +kernel⟩
theorem tp_24 : (Jvm.Cond.selects "CharMachine$Processor" ({ cls := "CharMachine$Processor", name := "storeAddress", desc := "(I)I" } : Jvm.MethodName) ({ cls := "CharMachine$Processor", name := "storeAddress", desc := "(I)I" } : Jvm.MethodName)) ∈ BIG := List.mem_filter.mpr ⟨List.mem_of_getElem? (i := 24) (by decide +kernel), by decide +kernel⟩
theorem tp_25 : (Jvm.Cond.selects "CharMachine$Processor" ({ cls := "CharMachine$Processor", name := "halt", desc := "(Z)I" } : Jvm.MethodName) ({ cls := "CharMachine$Processor", name := "halt", desc := "(Z)I" } : Jvm.MethodName)) ∈ BIG := List.mem_filter.mpr ⟨List.mem_of_getElem? (i := 25) (by decide +kernel), by decide +kernel⟩
theorem tp_26 : (Jvm.Cond.selects "CharMachineModel" ({ cls := "CharMachineModel", name := "is", desc := "(I)Z" } : Jvm.MethodName) ({ cls := "CharMachineModel", name := "is", desc := "(I)Z" } : Jvm.MethodName)) ∈ BIG := List.mem_filter.mpr ⟨List.mem_of_getElem? (i := 26) (by decide +kernel), by decide +kernel⟩
theorem tp_27 : (Jvm.Cond.selects "CharMachineModel" ({ cls := "CharMachineModel", name := "fetch", desc := "()I" } : Jvm.MethodName) ({ cls := "CharMachineModel", name := "fetch", desc := "()I" } : Jvm.MethodName)) ∈ BIG := List.mem_filter.mpr ⟨List.mem_of_getElem? (i := 27) (by decide +kernel), by decide +kernel⟩
theorem tp_28 : (Jvm.Cond.selects "CharMachineModel" ({ cls := "CharMachineModel", name := "address", desc := "(I)I" } : Jvm.MethodName) ({ cls := "CharMachineModel", name := "address", desc := "(I)I" } : Jvm.MethodName)) ∈ BIG := List.mem_filter.mpr ⟨List.mem_of_getElem? (i := 28) (by decide +kernel), by decide +kernel⟩
theorem tp_29 : (Jvm.Cond.selects "CharMachineModel" ({ cls := "CharMachineModel", name := "execute", desc := "()I" } : Jvm.MethodName) ({ cls := "CharMachineModel", name := "execute", desc := "()I" } : Jvm.MethodName)) ∈ BIG := List.mem_filter.mpr ⟨List.mem_of_getElem? (i := 29) (by decide +kernel), by decide +kernel⟩
theorem tp_30 : (Jvm.Cond.selects "CharMachineModel" ({ cls := "CharMachineModel", name := "add", desc := "()I" } : Jvm.MethodName) ({ cls := "CharMachineModel", name := "add", desc := "()I" } : Jvm.MethodName)) ∈ BIG := List.mem_filter.mpr ⟨List.mem_of_getElem? (i := 30) (by decide +kernel), by decide +kernel⟩
theorem tp_31 : (Jvm.Cond.selects "CharMachineModel" ({ cls := "CharMachineModel", name := "field", desc := "(II)I" } : Jvm.MethodName) ({ cls := "CharMachineModel", name := "field", desc := "(II)I" } : Jvm.MethodName)) ∈ BIG := List.mem_filter.mpr ⟨List.mem_of_getElem? (i := 31) (by decide +kernel), by decide +kernel⟩
theorem tp_32 : (Jvm.Cond.selects "CharMachineModel" ({ cls := "CharMachineModel", name := "readDigits", desc := "([IIII)V" } : Jvm.MethodName) ({ cls := "CharMachineModel", name := "readDigits", desc := "([IIII)V" } : Jvm.MethodName)) ∈ BIG := List.mem_filter.mpr ⟨List.mem_of_getElem? (i := 32) (by decide +kernel), by decide +kernel⟩
theorem tp_33 : (Jvm.Cond.selects "CharMachineModel" ({ cls := "CharMachineModel", name := "writeDigits", desc := "(II)V" } : Jvm.MethodName) ({ cls := "CharMachineModel", name := "writeDigits", desc := "(II)V" } : Jvm.MethodName)) ∈ BIG := List.mem_filter.mpr ⟨List.mem_of_getElem? (i := 33) (by decide +kernel), by decide +kernel⟩
theorem tp_34 : (Jvm.Cond.selects "CharMachineModel" ({ cls := "CharMachineModel", name := "isMore", desc := "(I)Z" } : Jvm.MethodName) ({ cls := "CharMachineModel", name := "isMore", desc := "(I)Z" } : Jvm.MethodName)) ∈ BIG := List.mem_filter.mpr ⟨List.mem_of_getElem? (i := 34) (by decide +kernel), by decide +kernel⟩
theorem tp_35 : (Jvm.Cond.selects "CharMachineModel" ({ cls := "CharMachineModel", name := "reset", desc := "()I" } : Jvm.MethodName) ({ cls := "CharMachineModel", name := "reset", desc := "()I" } : Jvm.MethodName)) ∈ BIG := List.mem_filter.mpr ⟨List.mem_of_getElem? (i := 35) (by decide +kernel), by decide +kernel⟩
theorem tp_36 : (Jvm.Cond.selects "CharMachineModel" ({ cls := "CharMachineModel", name := "move", desc := "()I" } : Jvm.MethodName) ({ cls := "CharMachineModel", name := "move", desc := "()I" } : Jvm.MethodName)) ∈ BIG := List.mem_filter.mpr ⟨List.mem_of_getElem? (i := 36) (by decide +kernel), by decide +kernel⟩
theorem tp_37 : (Jvm.Cond.selects "CharMachineModel" ({ cls := "CharMachineModel", name := "both", desc := "()I" } : Jvm.MethodName) ({ cls := "CharMachineModel", name := "both", desc := "()I" } : Jvm.MethodName)) ∈ BIG := List.mem_filter.mpr ⟨List.mem_of_getElem? (i := 37) (by decide +kernel), by decide +kernel⟩
theorem tp_38 : (Jvm.Cond.selects "CharMachineModel" ({ cls := "CharMachineModel", name := "load", desc := "()I" } : Jvm.MethodName) ({ cls := "CharMachineModel", name := "load", desc := "()I" } : Jvm.MethodName)) ∈ BIG := List.mem_filter.mpr ⟨List.mem_of_getElem? (i := 38) (by decide +kernel), by decide +kernel⟩
theorem tp_39 : (Jvm.Cond.selects "CharMachineModel" ({ cls := "CharMachineModel", name := "part", desc := "()I" } : Jvm.MethodName) ({ cls := "CharMachineModel", name := "part", desc := "()I" } : Jvm.MethodName)) ∈ BIG := List.mem_filter.mpr ⟨List.mem_of_getElem? (i := 39) (by decide +kernel), by decide +kernel⟩
theorem tp_40 : (Jvm.Cond.selects "CharMachineModel" ({ cls := "CharMachineModel", name := "compare", desc := "()I" } : Jvm.MethodName) ({ cls := "CharMachineModel", name := "compare", desc := "()I" } : Jvm.MethodName)) ∈ BIG := List.mem_filter.mpr ⟨List.mem_of_getElem? (i := 40) (by decide +kernel), by decide +kernel⟩
theorem tp_41 : (Jvm.Cond.selects "CharMachineModel" ({ cls := "CharMachineModel", name := "marks", desc := "()I" } : Jvm.MethodName) ({ cls := "CharMachineModel", name := "marks", desc := "()I" } : Jvm.MethodName)) ∈ BIG := List.mem_filter.mpr ⟨List.mem_of_getElem? (i := 41) (by decide +kernel), by decide +kernel⟩
theorem tp_42 : (Jvm.Cond.selects "CharMachineModel" ({ cls := "CharMachineModel", name := "clear", desc := "()I" } : Jvm.MethodName) ({ cls := "CharMachineModel", name := "clear", desc := "()I" } : Jvm.MethodName)) ∈ BIG := List.mem_filter.mpr ⟨List.mem_of_getElem? (i := 42) (by decide +kernel), by decide +kernel⟩
theorem tp_43 : (Jvm.Cond.selects "CharMachineModel" ({ cls := "CharMachineModel", name := "go", desc := "()V" } : Jvm.MethodName) ({ cls := "CharMachineModel", name := "go", desc := "()V" } : Jvm.MethodName)) ∈ BIG := List.mem_filter.mpr ⟨List.mem_of_getElem? (i := 43) (by decide +kernel), by decide +kernel⟩
theorem tp_44 : (Jvm.Cond.selects "CharMachineModel" ({ cls := "CharMachineModel", name := "edit", desc := "()I" } : Jvm.MethodName) ({ cls := "CharMachineModel", name := "edit", desc := "()I" } : Jvm.MethodName)) ∈ BIG := List.mem_filter.mpr ⟨List.mem_of_getElem? (i := 44) (by decide +kernel), by decide +kernel⟩
theorem tp_45 : (Jvm.Cond.selects "CharMachineModel" ({ cls := "CharMachineModel", name := "branch", desc := "()I" } : Jvm.MethodName) ({ cls := "CharMachineModel", name := "branch", desc := "()I" } : Jvm.MethodName)) ∈ BIG := List.mem_filter.mpr ⟨List.mem_of_getElem? (i := 45) (by decide +kernel), by decide +kernel⟩
theorem tp_46 : (Jvm.Cond.selects "CharMachineModel" ({ cls := "CharMachineModel", name := "modifier", desc := "()I" } : Jvm.MethodName) ({ cls := "CharMachineModel", name := "modifier", desc := "()I" } : Jvm.MethodName)) ∈ BIG := List.mem_filter.mpr ⟨List.mem_of_getElem? (i := 46) (by decide +kernel), by decide +kernel⟩
theorem tp_47 : (Jvm.Cond.selects "CharMachineModel" ({ cls := "CharMachineModel", name := "branchMark", desc := "()I" } : Jvm.MethodName) ({ cls := "CharMachineModel", name := "branchMark", desc := "()I" } : Jvm.MethodName)) ∈ BIG := List.mem_filter.mpr ⟨List.mem_of_getElem? (i := 47) (by decide +kernel), by decide +kernel⟩
theorem tp_48 : (Jvm.Cond.selects "CharMachineModel" ({ cls := "CharMachineModel", name := "device", desc := "()I" } : Jvm.MethodName) ({ cls := "CharMachineModel", name := "device", desc := "()I" } : Jvm.MethodName)) ∈ BIG := List.mem_filter.mpr ⟨List.mem_of_getElem? (i := 48) (by decide +kernel), by decide +kernel⟩
theorem tp_49 : (Jvm.Cond.selects "CharMachineModel" ({ cls := "CharMachineModel", name := "readCard", desc := "()I" } : Jvm.MethodName) ({ cls := "CharMachineModel", name := "readCard", desc := "()I" } : Jvm.MethodName)) ∈ BIG := List.mem_filter.mpr ⟨List.mem_of_getElem? (i := 49) (by decide +kernel), by decide +kernel⟩
theorem tp_50 : (Jvm.Cond.selects "CharMachineModel" ({ cls := "CharMachineModel", name := "print", desc := "()I" } : Jvm.MethodName) ({ cls := "CharMachineModel", name := "print", desc := "()I" } : Jvm.MethodName)) ∈ BIG := List.mem_filter.mpr ⟨List.mem_of_getElem? (i := 50) (by decide +kernel), by decide +kernel⟩
theorem tp_51 : (Jvm.Cond.selects "CharMachineModel" ({ cls := "CharMachineModel", name := "punchCard", desc := "()I" } : Jvm.MethodName) ({ cls := "CharMachineModel", name := "punchCard", desc := "()I" } : Jvm.MethodName)) ∈ BIG := List.mem_filter.mpr ⟨List.mem_of_getElem? (i := 51) (by decide +kernel), by decide +kernel⟩
theorem tp_52 : (Jvm.Cond.selects "CharMachineModel" ({ cls := "CharMachineModel", name := "keepRegister", desc := "()I" } : Jvm.MethodName) ({ cls := "CharMachineModel", name := "keepRegister", desc := "()I" } : Jvm.MethodName)) ∈ BIG := List.mem_filter.mpr ⟨List.mem_of_getElem? (i := 52) (by decide +kernel), by decide +kernel⟩
theorem tp_53 : (Jvm.Cond.selects "CharMachineModel" ({ cls := "CharMachineModel", name := "stopHere", desc := "()I" } : Jvm.MethodName) ({ cls := "CharMachineModel", name := "stopHere", desc := "()I" } : Jvm.MethodName)) ∈ BIG := List.mem_filter.mpr ⟨List.mem_of_getElem? (i := 53) (by decide +kernel), by decide +kernel⟩
theorem tw_0 : (Jvm.Cond.initialized "CharMachineLaw") ∈ BIG := List.mem_filter.mpr ⟨List.mem_of_getElem? (i := 54) (by decide +kernel), by decide +kernel⟩
theorem tw_1 : (Jvm.Cond.initialized "CharMachine") ∈ BIG := List.mem_filter.mpr ⟨List.mem_of_getElem? (i := 55) (by decide +kernel), by decide +kernel⟩
theorem tw_2 : (Jvm.Cond.initialized "CharMachine$Store") ∈ BIG := List.mem_filter.mpr ⟨List.mem_of_getElem? (i := 56) (by decide +kernel), by decide +kernel⟩
theorem tw_3 : (Jvm.Cond.initialized "CharMachine$Pile") ∈ BIG := List.mem_filter.mpr ⟨List.mem_of_getElem? (i := 57) (by decide +kernel), by decide +kernel⟩
theorem tw_4 : (Jvm.Cond.initialized "CharMachine$Processor") ∈ BIG := List.mem_filter.mpr ⟨List.mem_of_getElem? (i := 58) (by decide +kernel), by decide +kernel⟩
theorem tw_5 : (Jvm.Cond.initialized "CharMachine$Arithmetic") ∈ BIG := List.mem_filter.mpr ⟨List.mem_of_getElem? (i := 59) (by decide +kernel), by decide +kernel⟩
theorem tw_6 : (Jvm.Cond.initialized "CharMachineModel") ∈ BIG := List.mem_filter.mpr ⟨List.mem_of_getElem? (i := 60) (by decide +kernel), by decide +kernel⟩
theorem tw_7 : (Jvm.Cond.initialized "java/lang/Throwable") ∈ BIG := List.mem_filter.mpr ⟨List.mem_of_getElem? (i := 61) (by decide +kernel), by decide +kernel⟩
theorem tw_8 : (Jvm.Cond.initialized "java/lang/Exception") ∈ BIG := List.mem_filter.mpr ⟨List.mem_of_getElem? (i := 62) (by decide +kernel), by decide +kernel⟩
theorem tw_9 : (Jvm.Cond.initialized "java/lang/RuntimeException") ∈ BIG := List.mem_filter.mpr ⟨List.mem_of_getElem? (i := 63) (by decide +kernel), by decide +kernel⟩
theorem tw_10 : (Jvm.Cond.initialized "java/lang/IllegalArgumentException") ∈ BIG := List.mem_filter.mpr ⟨List.mem_of_getElem? (i := 64) (by decide +kernel), by decide +kernel⟩
theorem tw_11 : (Jvm.Cond.initialized "java/lang/IllegalStateException") ∈ BIG := List.mem_filter.mpr ⟨List.mem_of_getElem? (i := 65) (by decide +kernel), by decide +kernel⟩
theorem tw_12 : (Jvm.Cond.initialized "java/lang/Math") ∈ BIG := List.mem_filter.mpr ⟨List.mem_of_getElem? (i := 66) (by decide +kernel), by decide +kernel⟩
theorem tw_13 : (Jvm.Cond.initialized "java/lang/System") ∈ BIG := List.mem_filter.mpr ⟨List.mem_of_getElem? (i := 67) (by decide +kernel), by decide +kernel⟩
theorem tw_14 : (Jvm.Cond.initialized "java/lang/Integer") ∈ BIG := List.mem_filter.mpr ⟨List.mem_of_getElem? (i := 68) (by decide +kernel), by decide +kernel⟩
theorem tw_15 : (Jvm.Cond.initialized "java/lang/IndexOutOfBoundsException") ∈ BIG := List.mem_filter.mpr ⟨List.mem_of_getElem? (i := 69) (by decide +kernel), by decide +kernel⟩
theorem tw_16 : (Jvm.Cond.initialized "java/lang/UnsupportedOperationException") ∈ BIG := List.mem_filter.mpr ⟨List.mem_of_getElem? (i := 70) (by decide +kernel), by decide +kernel⟩
theorem tw_17 : (Jvm.Cond.classLink "CharMachineLaw" (8 : Nat) "CharMachine") ∈ BIG := List.mem_filter.mpr ⟨List.mem_of_getElem? (i := 71) (by decide +kernel), by decide +kernel⟩
theorem tw_18 : (Jvm.Cond.instantiable "CharMachine" (7 : Nat)) ∈ BIG := List.mem_filter.mpr ⟨List.mem_of_getElem? (i := 72) (by decide +kernel), by decide +kernel⟩
theorem tw_19 : (Jvm.Cond.methodLink "CharMachineLaw" (53 : Nat) ({ cls := "CharMachine", name := "<init>", desc := "(I)V" } : Jvm.MethodName)) ∈ BIG := List.mem_filter.mpr ⟨List.mem_of_getElem? (i := 73) (by decide +kernel), by decide +kernel⟩
theorem tw_20 : (Jvm.Cond.instanceMethod ({ cls := "CharMachine", name := "<init>", desc := "(I)V" } : Jvm.MethodName)) ∈ BIG := List.mem_filter.mpr ⟨List.mem_of_getElem? (i := 74) (by decide +kernel), by decide +kernel⟩
set_option maxRecDepth 100000 in
theorem tw_21 : (Jvm.Cond.code ({ cls := "CharMachine", name := "<init>", desc := "(I)V" } : Jvm.MethodName) prog_1_method_1_code (2 : Nat) (Option.none : Option Jvm.ClassFile.FieldType)) ∈ BIG := List.mem_filter.mpr ⟨List.mem_of_getElem? (i := 75) rfl, rfl⟩
theorem tw_22 : (Jvm.Cond.methodLink "CharMachine" (1 : Nat) ({ cls := "java/lang/Object", name := "<init>", desc := "()V" } : Jvm.MethodName)) ∈ BIG := List.mem_filter.mpr ⟨List.mem_of_getElem? (i := 76) (by decide +kernel), by decide +kernel⟩
theorem tw_23 : (Jvm.Cond.instanceMethod ({ cls := "java/lang/Object", name := "<init>", desc := "()V" } : Jvm.MethodName)) ∈ BIG := List.mem_filter.mpr ⟨List.mem_of_getElem? (i := 77) (by decide +kernel), by decide +kernel⟩
set_option maxRecDepth 100000 in
theorem tw_24 : (Jvm.Cond.code ({ cls := "java/lang/Object", name := "<init>", desc := "()V" } : Jvm.MethodName) object_method_1_code (1 : Nat) (Option.none : Option Jvm.ClassFile.FieldType)) ∈ BIG := List.mem_filter.mpr ⟨List.mem_of_getElem? (i := 78) rfl, rfl⟩
theorem tw_25 : (Jvm.Cond.classLink "CharMachine" (7 : Nat) "CharMachine$Store") ∈ BIG := List.mem_filter.mpr ⟨List.mem_of_getElem? (i := 79) (by decide +kernel), by decide +kernel⟩
theorem tw_26 : (Jvm.Cond.instantiable "CharMachine$Store" (1 : Nat)) ∈ BIG := List.mem_filter.mpr ⟨List.mem_of_getElem? (i := 80) (by decide +kernel), by decide +kernel⟩
theorem tw_27 : (Jvm.Cond.methodLink "CharMachine" (11 : Nat) ({ cls := "CharMachine$Store", name := "<init>", desc := "(I)V" } : Jvm.MethodName)) ∈ BIG := List.mem_filter.mpr ⟨List.mem_of_getElem? (i := 81) (by decide +kernel), by decide +kernel⟩
theorem tw_28 : (Jvm.Cond.instanceMethod ({ cls := "CharMachine$Store", name := "<init>", desc := "(I)V" } : Jvm.MethodName)) ∈ BIG := List.mem_filter.mpr ⟨List.mem_of_getElem? (i := 82) (by decide +kernel), by decide +kernel⟩
set_option maxRecDepth 100000 in
theorem tw_29 : (Jvm.Cond.code ({ cls := "CharMachine$Store", name := "<init>", desc := "(I)V" } : Jvm.MethodName) prog_5_method_1_code (2 : Nat) (Option.none : Option Jvm.ClassFile.FieldType)) ∈ BIG := List.mem_filter.mpr ⟨List.mem_of_getElem? (i := 83) rfl, rfl⟩
theorem tw_30 : (Jvm.Cond.methodLink "CharMachine$Store" (3 : Nat) ({ cls := "java/lang/Object", name := "<init>", desc := "()V" } : Jvm.MethodName)) ∈ BIG := List.mem_filter.mpr ⟨List.mem_of_getElem? (i := 84) (by decide +kernel), by decide +kernel⟩
theorem tw_31 : (Jvm.Cond.fieldLink "CharMachine$Store" (9 : Nat) "CharMachine$Store" "cells" "[I") ∈ BIG := List.mem_filter.mpr ⟨List.mem_of_getElem? (i := 85) (by decide +kernel), by decide +kernel⟩
theorem tw_32 : (Jvm.Cond.laysFinal "CharMachine$Store" "CharMachine$Store" "cells" "[I") ∈ BIG := List.mem_filter.mpr ⟨List.mem_of_getElem? (i := 86) (by decide +kernel), by decide +kernel⟩
theorem tw_35 : (Jvm.Cond.arrayClass Jvm.ClassFile.FieldType.int) ∈ BIG := List.mem_filter.mpr ⟨List.mem_of_getElem? (i := 89) (by decide +kernel), by decide +kernel⟩
theorem tw_36 : (Jvm.Cond.classLink "CharMachine" (18 : Nat) "CharMachine$Pile") ∈ BIG := List.mem_filter.mpr ⟨List.mem_of_getElem? (i := 90) (by decide +kernel), by decide +kernel⟩
theorem tw_37 : (Jvm.Cond.instantiable "CharMachine$Pile" (4 : Nat)) ∈ BIG := List.mem_filter.mpr ⟨List.mem_of_getElem? (i := 91) (by decide +kernel), by decide +kernel⟩
theorem tw_38 : (Jvm.Cond.methodLink "CharMachine" (20 : Nat) ({ cls := "CharMachine$Pile", name := "<init>", desc := "(II)V" } : Jvm.MethodName)) ∈ BIG := List.mem_filter.mpr ⟨List.mem_of_getElem? (i := 92) (by decide +kernel), by decide +kernel⟩
theorem tw_39 : (Jvm.Cond.instanceMethod ({ cls := "CharMachine$Pile", name := "<init>", desc := "(II)V" } : Jvm.MethodName)) ∈ BIG := List.mem_filter.mpr ⟨List.mem_of_getElem? (i := 93) (by decide +kernel), by decide +kernel⟩
set_option maxRecDepth 100000 in
theorem tw_40 : (Jvm.Cond.code ({ cls := "CharMachine$Pile", name := "<init>", desc := "(II)V" } : Jvm.MethodName) prog_3_method_1_code (3 : Nat) (Option.none : Option Jvm.ClassFile.FieldType)) ∈ BIG := List.mem_filter.mpr ⟨List.mem_of_getElem? (i := 94) rfl, rfl⟩
theorem tw_41 : (Jvm.Cond.methodLink "CharMachine$Pile" (1 : Nat) ({ cls := "java/lang/Object", name := "<init>", desc := "()V" } : Jvm.MethodName)) ∈ BIG := List.mem_filter.mpr ⟨List.mem_of_getElem? (i := 95) (by decide +kernel), by decide +kernel⟩
theorem tw_42 : (Jvm.Cond.fieldLink "CharMachine$Pile" (7 : Nat) "CharMachine$Pile" "limit" "I") ∈ BIG := List.mem_filter.mpr ⟨List.mem_of_getElem? (i := 96) (by decide +kernel), by decide +kernel⟩
theorem tw_43 : (Jvm.Cond.fieldLink "CharMachine$Pile" (13 : Nat) "CharMachine$Pile" "width" "I") ∈ BIG := List.mem_filter.mpr ⟨List.mem_of_getElem? (i := 97) (by decide +kernel), by decide +kernel⟩
theorem tw_44 : (Jvm.Cond.fieldLink "CharMachine$Pile" (16 : Nat) "CharMachine$Pile" "columns" "[I") ∈ BIG := List.mem_filter.mpr ⟨List.mem_of_getElem? (i := 98) (by decide +kernel), by decide +kernel⟩
theorem tw_45 : (Jvm.Cond.fieldLink "CharMachine$Pile" (20 : Nat) "CharMachine$Pile" "filled" "I") ∈ BIG := List.mem_filter.mpr ⟨List.mem_of_getElem? (i := 99) (by decide +kernel), by decide +kernel⟩
theorem tw_46 : (Jvm.Cond.laysFinal "CharMachine$Pile" "CharMachine$Pile" "limit" "I") ∈ BIG := List.mem_filter.mpr ⟨List.mem_of_getElem? (i := 100) (by decide +kernel), by decide +kernel⟩
theorem tw_48 : (Jvm.Cond.laysFinal "CharMachine$Pile" "CharMachine$Pile" "width" "I") ∈ BIG := List.mem_filter.mpr ⟨List.mem_of_getElem? (i := 102) (by decide +kernel), by decide +kernel⟩
theorem tw_50 : (Jvm.Cond.laysFinal "CharMachine$Pile" "CharMachine$Pile" "columns" "[I") ∈ BIG := List.mem_filter.mpr ⟨List.mem_of_getElem? (i := 104) (by decide +kernel), by decide +kernel⟩
theorem tw_52 : (Jvm.Cond.lays "CharMachine$Pile" "CharMachine$Pile" "filled" "I") ∈ BIG := List.mem_filter.mpr ⟨List.mem_of_getElem? (i := 106) (by decide +kernel), by decide +kernel⟩
theorem tw_55 : (Jvm.Cond.classLink "CharMachine" (33 : Nat) "CharMachine$Processor") ∈ BIG := List.mem_filter.mpr ⟨List.mem_of_getElem? (i := 109) (by decide +kernel), by decide +kernel⟩
theorem tw_56 : (Jvm.Cond.instantiable "CharMachine$Processor" (12 : Nat)) ∈ BIG := List.mem_filter.mpr ⟨List.mem_of_getElem? (i := 110) (by decide +kernel), by decide +kernel⟩
theorem tw_57 : (Jvm.Cond.methodLink "CharMachine" (35 : Nat) ({ cls := "CharMachine$Processor", name := "<init>", desc := "(LCharMachine$Store;LCharMachine$Pile;LCharMachine$Pile;LCharMachine$Pile;)V" } : Jvm.MethodName)) ∈ BIG := List.mem_filter.mpr ⟨List.mem_of_getElem? (i := 111) (by decide +kernel), by decide +kernel⟩
theorem tw_58 : (Jvm.Cond.instanceMethod ({ cls := "CharMachine$Processor", name := "<init>", desc := "(LCharMachine$Store;LCharMachine$Pile;LCharMachine$Pile;LCharMachine$Pile;)V" } : Jvm.MethodName)) ∈ BIG := List.mem_filter.mpr ⟨List.mem_of_getElem? (i := 112) (by decide +kernel), by decide +kernel⟩
set_option maxRecDepth 100000 in
theorem tw_59 : (Jvm.Cond.code ({ cls := "CharMachine$Processor", name := "<init>", desc := "(LCharMachine$Store;LCharMachine$Pile;LCharMachine$Pile;LCharMachine$Pile;)V" } : Jvm.MethodName) prog_4_method_1_code (5 : Nat) (Option.none : Option Jvm.ClassFile.FieldType)) ∈ BIG := List.mem_filter.mpr ⟨List.mem_of_getElem? (i := 113) rfl, rfl⟩
theorem tw_60 : (Jvm.Cond.methodLink "CharMachine$Processor" (3 : Nat) ({ cls := "java/lang/Object", name := "<init>", desc := "()V" } : Jvm.MethodName)) ∈ BIG := List.mem_filter.mpr ⟨List.mem_of_getElem? (i := 114) (by decide +kernel), by decide +kernel⟩
theorem tw_61 : (Jvm.Cond.classLink "CharMachine$Processor" (25 : Nat) "CharMachine$Arithmetic") ∈ BIG := List.mem_filter.mpr ⟨List.mem_of_getElem? (i := 115) (by decide +kernel), by decide +kernel⟩
theorem tw_62 : (Jvm.Cond.instantiable "CharMachine$Arithmetic" (2 : Nat)) ∈ BIG := List.mem_filter.mpr ⟨List.mem_of_getElem? (i := 116) (by decide +kernel), by decide +kernel⟩
theorem tw_63 : (Jvm.Cond.methodLink "CharMachine$Processor" (27 : Nat) ({ cls := "CharMachine$Arithmetic", name := "<init>", desc := "(LCharMachine$Store;)V" } : Jvm.MethodName)) ∈ BIG := List.mem_filter.mpr ⟨List.mem_of_getElem? (i := 117) (by decide +kernel), by decide +kernel⟩
theorem tw_64 : (Jvm.Cond.instanceMethod ({ cls := "CharMachine$Arithmetic", name := "<init>", desc := "(LCharMachine$Store;)V" } : Jvm.MethodName)) ∈ BIG := List.mem_filter.mpr ⟨List.mem_of_getElem? (i := 118) (by decide +kernel), by decide +kernel⟩
set_option maxRecDepth 100000 in
theorem tw_65 : (Jvm.Cond.code ({ cls := "CharMachine$Arithmetic", name := "<init>", desc := "(LCharMachine$Store;)V" } : Jvm.MethodName) prog_2_method_1_code (2 : Nat) (Option.none : Option Jvm.ClassFile.FieldType)) ∈ BIG := List.mem_filter.mpr ⟨List.mem_of_getElem? (i := 119) rfl, rfl⟩
theorem tw_66 : (Jvm.Cond.methodLink "CharMachine$Arithmetic" (1 : Nat) ({ cls := "java/lang/Object", name := "<init>", desc := "()V" } : Jvm.MethodName)) ∈ BIG := List.mem_filter.mpr ⟨List.mem_of_getElem? (i := 120) (by decide +kernel), by decide +kernel⟩
theorem tw_67 : (Jvm.Cond.methodLink "CharMachine$Arithmetic" (13 : Nat) ({ cls := "CharMachine$Store", name := "size", desc := "()I" } : Jvm.MethodName)) ∈ BIG := List.mem_filter.mpr ⟨List.mem_of_getElem? (i := 121) (by decide +kernel), by decide +kernel⟩
theorem tw_68 : (Jvm.Cond.instanceMethod ({ cls := "CharMachine$Store", name := "size", desc := "()I" } : Jvm.MethodName)) ∈ BIG := List.mem_filter.mpr ⟨List.mem_of_getElem? (i := 122) (by decide +kernel), by decide +kernel⟩
theorem tw_69 : (Jvm.Cond.selects "CharMachine$Store" ({ cls := "CharMachine$Store", name := "size", desc := "()I" } : Jvm.MethodName) ({ cls := "CharMachine$Store", name := "size", desc := "()I" } : Jvm.MethodName)) ∈ BIG := List.mem_filter.mpr ⟨List.mem_of_getElem? (i := 123) (by decide +kernel), by decide +kernel⟩
set_option maxRecDepth 100000 in
theorem tw_70 : (Jvm.Cond.code ({ cls := "CharMachine$Store", name := "size", desc := "()I" } : Jvm.MethodName) prog_5_method_2_code (1 : Nat) (Option.some Jvm.ClassFile.FieldType.int)) ∈ BIG := List.mem_filter.mpr ⟨List.mem_of_getElem? (i := 124) rfl, rfl⟩
theorem tw_71 : (Jvm.Cond.fieldLink "CharMachine$Arithmetic" (7 : Nat) "CharMachine$Arithmetic" "store" "LCharMachine$Store;") ∈ BIG := List.mem_filter.mpr ⟨List.mem_of_getElem? (i := 125) (by decide +kernel), by decide +kernel⟩
theorem tw_72 : (Jvm.Cond.fieldLink "CharMachine$Arithmetic" (19 : Nat) "CharMachine$Arithmetic" "digits" "[I") ∈ BIG := List.mem_filter.mpr ⟨List.mem_of_getElem? (i := 126) (by decide +kernel), by decide +kernel⟩
theorem tw_73 : (Jvm.Cond.laysFinal "CharMachine$Arithmetic" "CharMachine$Arithmetic" "store" "LCharMachine$Store;") ∈ BIG := List.mem_filter.mpr ⟨List.mem_of_getElem? (i := 127) (by decide +kernel), by decide +kernel⟩
theorem tw_75 : (Jvm.Cond.laysFinal "CharMachine$Arithmetic" "CharMachine$Arithmetic" "digits" "[I") ∈ BIG := List.mem_filter.mpr ⟨List.mem_of_getElem? (i := 129) (by decide +kernel), by decide +kernel⟩
theorem tw_78 : (Jvm.Cond.fieldLink "CharMachine$Processor" (9 : Nat) "CharMachine$Processor" "store" "LCharMachine$Store;") ∈ BIG := List.mem_filter.mpr ⟨List.mem_of_getElem? (i := 132) (by decide +kernel), by decide +kernel⟩
theorem tw_79 : (Jvm.Cond.fieldLink "CharMachine$Processor" (15 : Nat) "CharMachine$Processor" "cards" "LCharMachine$Pile;") ∈ BIG := List.mem_filter.mpr ⟨List.mem_of_getElem? (i := 133) (by decide +kernel), by decide +kernel⟩
theorem tw_80 : (Jvm.Cond.fieldLink "CharMachine$Processor" (19 : Nat) "CharMachine$Processor" "lines" "LCharMachine$Pile;") ∈ BIG := List.mem_filter.mpr ⟨List.mem_of_getElem? (i := 134) (by decide +kernel), by decide +kernel⟩
theorem tw_81 : (Jvm.Cond.fieldLink "CharMachine$Processor" (22 : Nat) "CharMachine$Processor" "punches" "LCharMachine$Pile;") ∈ BIG := List.mem_filter.mpr ⟨List.mem_of_getElem? (i := 135) (by decide +kernel), by decide +kernel⟩
theorem tw_82 : (Jvm.Cond.fieldLink "CharMachine$Processor" (30 : Nat) "CharMachine$Processor" "arithmetic" "LCharMachine$Arithmetic;") ∈ BIG := List.mem_filter.mpr ⟨List.mem_of_getElem? (i := 136) (by decide +kernel), by decide +kernel⟩
theorem tw_83 : (Jvm.Cond.fieldLink "CharMachine$Processor" (44 : Nat) "CharMachine$Processor" "i" "I") ∈ BIG := List.mem_filter.mpr ⟨List.mem_of_getElem? (i := 137) (by decide +kernel), by decide +kernel⟩
theorem tw_85 : (Jvm.Cond.fieldLink "CharMachine$Processor" (67 : Nat) "CharMachine$Processor" "a" "I") ∈ BIG := List.mem_filter.mpr ⟨List.mem_of_getElem? (i := 139) (by decide +kernel), by decide +kernel⟩
theorem tw_87 : (Jvm.Cond.fieldLink "CharMachine$Processor" (81 : Nat) "CharMachine$Processor" "b" "I") ∈ BIG := List.mem_filter.mpr ⟨List.mem_of_getElem? (i := 141) (by decide +kernel), by decide +kernel⟩
theorem tw_90 : (Jvm.Cond.fieldLink "CharMachine$Processor" (187 : Nat) "CharMachine$Processor" "comparison" "I") ∈ BIG := List.mem_filter.mpr ⟨List.mem_of_getElem? (i := 144) (by decide +kernel), by decide +kernel⟩
theorem tw_92 : (Jvm.Cond.fieldLink "CharMachine$Processor" (161 : Nat) "CharMachine$Processor" "overflow" "Z") ∈ BIG := List.mem_filter.mpr ⟨List.mem_of_getElem? (i := 146) (by decide +kernel), by decide +kernel⟩
theorem tw_94 : (Jvm.Cond.fieldLink "CharMachine$Processor" (219 : Nat) "CharMachine$Processor" "lastCard" "Z") ∈ BIG := List.mem_filter.mpr ⟨List.mem_of_getElem? (i := 148) (by decide +kernel), by decide +kernel⟩
theorem tw_95 : (Jvm.Cond.fieldLink "CharMachine$Processor" (40 : Nat) "CharMachine$Processor" "cardsRead" "I") ∈ BIG := List.mem_filter.mpr ⟨List.mem_of_getElem? (i := 149) (by decide +kernel), by decide +kernel⟩
theorem tw_96 : (Jvm.Cond.laysFinal "CharMachine$Processor" "CharMachine$Processor" "store" "LCharMachine$Store;") ∈ BIG := List.mem_filter.mpr ⟨List.mem_of_getElem? (i := 150) (by decide +kernel), by decide +kernel⟩
theorem tw_98 : (Jvm.Cond.laysFinal "CharMachine$Processor" "CharMachine$Processor" "cards" "LCharMachine$Pile;") ∈ BIG := List.mem_filter.mpr ⟨List.mem_of_getElem? (i := 152) (by decide +kernel), by decide +kernel⟩
theorem tw_100 : (Jvm.Cond.laysFinal "CharMachine$Processor" "CharMachine$Processor" "lines" "LCharMachine$Pile;") ∈ BIG := List.mem_filter.mpr ⟨List.mem_of_getElem? (i := 154) (by decide +kernel), by decide +kernel⟩
theorem tw_102 : (Jvm.Cond.laysFinal "CharMachine$Processor" "CharMachine$Processor" "punches" "LCharMachine$Pile;") ∈ BIG := List.mem_filter.mpr ⟨List.mem_of_getElem? (i := 156) (by decide +kernel), by decide +kernel⟩
theorem tw_104 : (Jvm.Cond.laysFinal "CharMachine$Processor" "CharMachine$Processor" "arithmetic" "LCharMachine$Arithmetic;") ∈ BIG := List.mem_filter.mpr ⟨List.mem_of_getElem? (i := 158) (by decide +kernel), by decide +kernel⟩
theorem tw_106 : (Jvm.Cond.lays "CharMachine$Processor" "CharMachine$Processor" "i" "I") ∈ BIG := List.mem_filter.mpr ⟨List.mem_of_getElem? (i := 160) (by decide +kernel), by decide +kernel⟩
theorem tw_108 : (Jvm.Cond.lays "CharMachine$Processor" "CharMachine$Processor" "a" "I") ∈ BIG := List.mem_filter.mpr ⟨List.mem_of_getElem? (i := 162) (by decide +kernel), by decide +kernel⟩
theorem tw_110 : (Jvm.Cond.lays "CharMachine$Processor" "CharMachine$Processor" "b" "I") ∈ BIG := List.mem_filter.mpr ⟨List.mem_of_getElem? (i := 164) (by decide +kernel), by decide +kernel⟩
theorem tw_112 : (Jvm.Cond.lays "CharMachine$Processor" "CharMachine$Processor" "comparison" "I") ∈ BIG := List.mem_filter.mpr ⟨List.mem_of_getElem? (i := 166) (by decide +kernel), by decide +kernel⟩
theorem tw_114 : (Jvm.Cond.lays "CharMachine$Processor" "CharMachine$Processor" "overflow" "Z") ∈ BIG := List.mem_filter.mpr ⟨List.mem_of_getElem? (i := 168) (by decide +kernel), by decide +kernel⟩
theorem tw_116 : (Jvm.Cond.lays "CharMachine$Processor" "CharMachine$Processor" "lastCard" "Z") ∈ BIG := List.mem_filter.mpr ⟨List.mem_of_getElem? (i := 170) (by decide +kernel), by decide +kernel⟩
theorem tw_118 : (Jvm.Cond.lays "CharMachine$Processor" "CharMachine$Processor" "cardsRead" "I") ∈ BIG := List.mem_filter.mpr ⟨List.mem_of_getElem? (i := 172) (by decide +kernel), by decide +kernel⟩
theorem tw_121 : (Jvm.Cond.fieldLink "CharMachine" (14 : Nat) "CharMachine" "store" "LCharMachine$Store;") ∈ BIG := List.mem_filter.mpr ⟨List.mem_of_getElem? (i := 175) (by decide +kernel), by decide +kernel⟩
theorem tw_122 : (Jvm.Cond.fieldLink "CharMachine" (23 : Nat) "CharMachine" "cards" "LCharMachine$Pile;") ∈ BIG := List.mem_filter.mpr ⟨List.mem_of_getElem? (i := 176) (by decide +kernel), by decide +kernel⟩
theorem tw_123 : (Jvm.Cond.fieldLink "CharMachine" (27 : Nat) "CharMachine" "lines" "LCharMachine$Pile;") ∈ BIG := List.mem_filter.mpr ⟨List.mem_of_getElem? (i := 177) (by decide +kernel), by decide +kernel⟩
theorem tw_124 : (Jvm.Cond.fieldLink "CharMachine" (30 : Nat) "CharMachine" "punches" "LCharMachine$Pile;") ∈ BIG := List.mem_filter.mpr ⟨List.mem_of_getElem? (i := 178) (by decide +kernel), by decide +kernel⟩
theorem tw_125 : (Jvm.Cond.fieldLink "CharMachine" (38 : Nat) "CharMachine" "processor" "LCharMachine$Processor;") ∈ BIG := List.mem_filter.mpr ⟨List.mem_of_getElem? (i := 179) (by decide +kernel), by decide +kernel⟩
theorem tw_126 : (Jvm.Cond.fieldLink "CharMachine" (91 : Nat) "CharMachine" "stepsSoFar" "I") ∈ BIG := List.mem_filter.mpr ⟨List.mem_of_getElem? (i := 180) (by decide +kernel), by decide +kernel⟩
theorem tw_127 : (Jvm.Cond.fieldLink "CharMachine" (94 : Nat) "CharMachine" "latestAnswer" "I") ∈ BIG := List.mem_filter.mpr ⟨List.mem_of_getElem? (i := 181) (by decide +kernel), by decide +kernel⟩
theorem tw_128 : (Jvm.Cond.laysFinal "CharMachine" "CharMachine" "store" "LCharMachine$Store;") ∈ BIG := List.mem_filter.mpr ⟨List.mem_of_getElem? (i := 182) (by decide +kernel), by decide +kernel⟩
theorem tw_130 : (Jvm.Cond.laysFinal "CharMachine" "CharMachine" "cards" "LCharMachine$Pile;") ∈ BIG := List.mem_filter.mpr ⟨List.mem_of_getElem? (i := 184) (by decide +kernel), by decide +kernel⟩
theorem tw_132 : (Jvm.Cond.laysFinal "CharMachine" "CharMachine" "lines" "LCharMachine$Pile;") ∈ BIG := List.mem_filter.mpr ⟨List.mem_of_getElem? (i := 186) (by decide +kernel), by decide +kernel⟩
theorem tw_134 : (Jvm.Cond.laysFinal "CharMachine" "CharMachine" "punches" "LCharMachine$Pile;") ∈ BIG := List.mem_filter.mpr ⟨List.mem_of_getElem? (i := 188) (by decide +kernel), by decide +kernel⟩
theorem tw_136 : (Jvm.Cond.laysFinal "CharMachine" "CharMachine" "processor" "LCharMachine$Processor;") ∈ BIG := List.mem_filter.mpr ⟨List.mem_of_getElem? (i := 190) (by decide +kernel), by decide +kernel⟩
theorem tw_138 : (Jvm.Cond.lays "CharMachine" "CharMachine" "stepsSoFar" "I") ∈ BIG := List.mem_filter.mpr ⟨List.mem_of_getElem? (i := 192) (by decide +kernel), by decide +kernel⟩
theorem tw_140 : (Jvm.Cond.lays "CharMachine" "CharMachine" "latestAnswer" "I") ∈ BIG := List.mem_filter.mpr ⟨List.mem_of_getElem? (i := 194) (by decide +kernel), by decide +kernel⟩
theorem tw_143 : (Jvm.Cond.methodLink "CharMachineLaw" (59 : Nat) ({ cls := "CharMachine", name := "set", desc := "(IIZ)Z" } : Jvm.MethodName)) ∈ BIG := List.mem_filter.mpr ⟨List.mem_of_getElem? (i := 197) (by decide +kernel), by decide +kernel⟩
theorem tw_144 : (Jvm.Cond.instanceMethod ({ cls := "CharMachine", name := "set", desc := "(IIZ)Z" } : Jvm.MethodName)) ∈ BIG := List.mem_filter.mpr ⟨List.mem_of_getElem? (i := 198) (by decide +kernel), by decide +kernel⟩
theorem tw_145 : (Jvm.Cond.selects "CharMachine" ({ cls := "CharMachine", name := "set", desc := "(IIZ)Z" } : Jvm.MethodName) ({ cls := "CharMachine", name := "set", desc := "(IIZ)Z" } : Jvm.MethodName)) ∈ BIG := List.mem_filter.mpr ⟨List.mem_of_getElem? (i := 199) (by decide +kernel), by decide +kernel⟩
set_option maxRecDepth 100000 in
theorem tw_146 : (Jvm.Cond.code ({ cls := "CharMachine", name := "set", desc := "(IIZ)Z" } : Jvm.MethodName) prog_1_method_2_code (4 : Nat) (Option.some Jvm.ClassFile.FieldType.boolean)) ∈ BIG := List.mem_filter.mpr ⟨List.mem_of_getElem? (i := 200) rfl, rfl⟩
theorem tw_147 : (Jvm.Cond.methodLink "CharMachine" (42 : Nat) ({ cls := "CharMachine$Store", name := "has", desc := "(I)Z" } : Jvm.MethodName)) ∈ BIG := List.mem_filter.mpr ⟨List.mem_of_getElem? (i := 201) (by decide +kernel), by decide +kernel⟩
theorem tw_148 : (Jvm.Cond.instanceMethod ({ cls := "CharMachine$Store", name := "has", desc := "(I)Z" } : Jvm.MethodName)) ∈ BIG := List.mem_filter.mpr ⟨List.mem_of_getElem? (i := 202) (by decide +kernel), by decide +kernel⟩
theorem tw_149 : (Jvm.Cond.selects "CharMachine$Store" ({ cls := "CharMachine$Store", name := "has", desc := "(I)Z" } : Jvm.MethodName) ({ cls := "CharMachine$Store", name := "has", desc := "(I)Z" } : Jvm.MethodName)) ∈ BIG := List.mem_filter.mpr ⟨List.mem_of_getElem? (i := 203) (by decide +kernel), by decide +kernel⟩
set_option maxRecDepth 100000 in
theorem tw_150 : (Jvm.Cond.code ({ cls := "CharMachine$Store", name := "has", desc := "(I)Z" } : Jvm.MethodName) prog_5_method_3_code (2 : Nat) (Option.some Jvm.ClassFile.FieldType.boolean)) ∈ BIG := List.mem_filter.mpr ⟨List.mem_of_getElem? (i := 204) rfl, rfl⟩
theorem tw_151 : (Jvm.Cond.methodLink "CharMachine" (46 : Nat) ({ cls := "CharMachine", name := "isCharacter", desc := "(I)Z" } : Jvm.MethodName)) ∈ BIG := List.mem_filter.mpr ⟨List.mem_of_getElem? (i := 205) (by decide +kernel), by decide +kernel⟩
theorem tw_152 : (Jvm.Cond.static ({ cls := "CharMachine", name := "isCharacter", desc := "(I)Z" } : Jvm.MethodName)) ∈ BIG := List.mem_filter.mpr ⟨List.mem_of_getElem? (i := 206) (by decide +kernel), by decide +kernel⟩
set_option maxRecDepth 100000 in
theorem tw_153 : (Jvm.Cond.code ({ cls := "CharMachine", name := "isCharacter", desc := "(I)Z" } : Jvm.MethodName) prog_1_method_15_code (1 : Nat) (Option.some Jvm.ClassFile.FieldType.boolean)) ∈ BIG := List.mem_filter.mpr ⟨List.mem_of_getElem? (i := 207) rfl, rfl⟩
theorem tw_154 : (Jvm.Cond.methodLink "CharMachine" (49 : Nat) ({ cls := "CharMachine$Store", name := "place", desc := "(IIZ)V" } : Jvm.MethodName)) ∈ BIG := List.mem_filter.mpr ⟨List.mem_of_getElem? (i := 208) (by decide +kernel), by decide +kernel⟩
theorem tw_155 : (Jvm.Cond.instanceMethod ({ cls := "CharMachine$Store", name := "place", desc := "(IIZ)V" } : Jvm.MethodName)) ∈ BIG := List.mem_filter.mpr ⟨List.mem_of_getElem? (i := 209) (by decide +kernel), by decide +kernel⟩
theorem tw_156 : (Jvm.Cond.selects "CharMachine$Store" ({ cls := "CharMachine$Store", name := "place", desc := "(IIZ)V" } : Jvm.MethodName) ({ cls := "CharMachine$Store", name := "place", desc := "(IIZ)V" } : Jvm.MethodName)) ∈ BIG := List.mem_filter.mpr ⟨List.mem_of_getElem? (i := 210) (by decide +kernel), by decide +kernel⟩
set_option maxRecDepth 100000 in
theorem tw_157 : (Jvm.Cond.code ({ cls := "CharMachine$Store", name := "place", desc := "(IIZ)V" } : Jvm.MethodName) prog_5_method_10_code (4 : Nat) (Option.none : Option Jvm.ClassFile.FieldType)) ∈ BIG := List.mem_filter.mpr ⟨List.mem_of_getElem? (i := 211) rfl, rfl⟩
theorem tw_158 : (Jvm.Cond.methodLink "CharMachineLaw" (73 : Nat) ({ cls := "CharMachine", name := "column", desc := "(II)Z" } : Jvm.MethodName)) ∈ BIG := List.mem_filter.mpr ⟨List.mem_of_getElem? (i := 212) (by decide +kernel), by decide +kernel⟩
theorem tw_159 : (Jvm.Cond.instanceMethod ({ cls := "CharMachine", name := "column", desc := "(II)Z" } : Jvm.MethodName)) ∈ BIG := List.mem_filter.mpr ⟨List.mem_of_getElem? (i := 213) (by decide +kernel), by decide +kernel⟩
theorem tw_160 : (Jvm.Cond.selects "CharMachine" ({ cls := "CharMachine", name := "column", desc := "(II)Z" } : Jvm.MethodName) ({ cls := "CharMachine", name := "column", desc := "(II)Z" } : Jvm.MethodName)) ∈ BIG := List.mem_filter.mpr ⟨List.mem_of_getElem? (i := 214) (by decide +kernel), by decide +kernel⟩
set_option maxRecDepth 100000 in
theorem tw_161 : (Jvm.Cond.code ({ cls := "CharMachine", name := "column", desc := "(II)Z" } : Jvm.MethodName) prog_1_method_4_code (3 : Nat) (Option.some Jvm.ClassFile.FieldType.boolean)) ∈ BIG := List.mem_filter.mpr ⟨List.mem_of_getElem? (i := 215) rfl, rfl⟩
theorem tw_162 : (Jvm.Cond.methodLink "CharMachine" (68 : Nat) ({ cls := "CharMachine$Pile", name := "write", desc := "(II)V" } : Jvm.MethodName)) ∈ BIG := List.mem_filter.mpr ⟨List.mem_of_getElem? (i := 216) (by decide +kernel), by decide +kernel⟩
theorem tw_163 : (Jvm.Cond.instanceMethod ({ cls := "CharMachine$Pile", name := "write", desc := "(II)V" } : Jvm.MethodName)) ∈ BIG := List.mem_filter.mpr ⟨List.mem_of_getElem? (i := 217) (by decide +kernel), by decide +kernel⟩
theorem tw_164 : (Jvm.Cond.selects "CharMachine$Pile" ({ cls := "CharMachine$Pile", name := "write", desc := "(II)V" } : Jvm.MethodName) ({ cls := "CharMachine$Pile", name := "write", desc := "(II)V" } : Jvm.MethodName)) ∈ BIG := List.mem_filter.mpr ⟨List.mem_of_getElem? (i := 218) (by decide +kernel), by decide +kernel⟩
set_option maxRecDepth 100000 in
theorem tw_165 : (Jvm.Cond.code ({ cls := "CharMachine$Pile", name := "write", desc := "(II)V" } : Jvm.MethodName) prog_3_method_6_code (3 : Nat) (Option.none : Option Jvm.ClassFile.FieldType)) ∈ BIG := List.mem_filter.mpr ⟨List.mem_of_getElem? (i := 219) rfl, rfl⟩
theorem tw_166 : (Jvm.Cond.methodLink "CharMachineLaw" (82 : Nat) ({ cls := "CharMachine", name := "start", desc := "(I)Z" } : Jvm.MethodName)) ∈ BIG := List.mem_filter.mpr ⟨List.mem_of_getElem? (i := 220) (by decide +kernel), by decide +kernel⟩
theorem tw_167 : (Jvm.Cond.instanceMethod ({ cls := "CharMachine", name := "start", desc := "(I)Z" } : Jvm.MethodName)) ∈ BIG := List.mem_filter.mpr ⟨List.mem_of_getElem? (i := 221) (by decide +kernel), by decide +kernel⟩
theorem tw_168 : (Jvm.Cond.selects "CharMachine" ({ cls := "CharMachine", name := "start", desc := "(I)Z" } : Jvm.MethodName) ({ cls := "CharMachine", name := "start", desc := "(I)Z" } : Jvm.MethodName)) ∈ BIG := List.mem_filter.mpr ⟨List.mem_of_getElem? (i := 222) (by decide +kernel), by decide +kernel⟩
set_option maxRecDepth 100000 in
theorem tw_169 : (Jvm.Cond.code ({ cls := "CharMachine", name := "start", desc := "(I)Z" } : Jvm.MethodName) prog_1_method_6_code (2 : Nat) (Option.some Jvm.ClassFile.FieldType.boolean)) ∈ BIG := List.mem_filter.mpr ⟨List.mem_of_getElem? (i := 223) rfl, rfl⟩
theorem tw_170 : (Jvm.Cond.methodLink "CharMachineLaw" (96 : Nat) ({ cls := "CharMachine", name := "state", desc := "(I)I" } : Jvm.MethodName)) ∈ BIG := List.mem_filter.mpr ⟨List.mem_of_getElem? (i := 224) (by decide +kernel), by decide +kernel⟩
theorem tw_171 : (Jvm.Cond.instanceMethod ({ cls := "CharMachine", name := "state", desc := "(I)I" } : Jvm.MethodName)) ∈ BIG := List.mem_filter.mpr ⟨List.mem_of_getElem? (i := 225) (by decide +kernel), by decide +kernel⟩
theorem tw_172 : (Jvm.Cond.selects "CharMachine" ({ cls := "CharMachine", name := "state", desc := "(I)I" } : Jvm.MethodName) ({ cls := "CharMachine", name := "state", desc := "(I)I" } : Jvm.MethodName)) ∈ BIG := List.mem_filter.mpr ⟨List.mem_of_getElem? (i := 226) (by decide +kernel), by decide +kernel⟩
set_option maxRecDepth 100000 in
theorem tw_173 : (Jvm.Cond.code ({ cls := "CharMachine", name := "state", desc := "(I)I" } : Jvm.MethodName) prog_1_method_10_code (2 : Nat) (Option.some Jvm.ClassFile.FieldType.int)) ∈ BIG := List.mem_filter.mpr ⟨List.mem_of_getElem? (i := 227) rfl, rfl⟩
theorem tw_174 : (Jvm.Cond.methodLink "CharMachine" (57 : Nat) ({ cls := "CharMachine$Store", name := "size", desc := "()I" } : Jvm.MethodName)) ∈ BIG := List.mem_filter.mpr ⟨List.mem_of_getElem? (i := 228) (by decide +kernel), by decide +kernel⟩
theorem tw_175 : (Jvm.Cond.methodLink "CharMachineLaw" (110 : Nat) ({ cls := "CharMachine", name := "count", desc := "(I)I" } : Jvm.MethodName)) ∈ BIG := List.mem_filter.mpr ⟨List.mem_of_getElem? (i := 229) (by decide +kernel), by decide +kernel⟩
theorem tw_176 : (Jvm.Cond.instanceMethod ({ cls := "CharMachine", name := "count", desc := "(I)I" } : Jvm.MethodName)) ∈ BIG := List.mem_filter.mpr ⟨List.mem_of_getElem? (i := 230) (by decide +kernel), by decide +kernel⟩
theorem tw_177 : (Jvm.Cond.selects "CharMachine" ({ cls := "CharMachine", name := "count", desc := "(I)I" } : Jvm.MethodName) ({ cls := "CharMachine", name := "count", desc := "(I)I" } : Jvm.MethodName)) ∈ BIG := List.mem_filter.mpr ⟨List.mem_of_getElem? (i := 231) (by decide +kernel), by decide +kernel⟩
set_option maxRecDepth 100000 in
theorem tw_178 : (Jvm.Cond.code ({ cls := "CharMachine", name := "count", desc := "(I)I" } : Jvm.MethodName) prog_1_method_14_code (2 : Nat) (Option.some Jvm.ClassFile.FieldType.int)) ∈ BIG := List.mem_filter.mpr ⟨List.mem_of_getElem? (i := 232) rfl, rfl⟩
theorem tw_179 : (Jvm.Cond.methodLink "CharMachine" (81 : Nat) ({ cls := "CharMachine$Processor", name := "cardsToRead", desc := "()I" } : Jvm.MethodName)) ∈ BIG := List.mem_filter.mpr ⟨List.mem_of_getElem? (i := 233) (by decide +kernel), by decide +kernel⟩
theorem tw_180 : (Jvm.Cond.instanceMethod ({ cls := "CharMachine$Processor", name := "cardsToRead", desc := "()I" } : Jvm.MethodName)) ∈ BIG := List.mem_filter.mpr ⟨List.mem_of_getElem? (i := 234) (by decide +kernel), by decide +kernel⟩
theorem tw_181 : (Jvm.Cond.selects "CharMachine$Processor" ({ cls := "CharMachine$Processor", name := "cardsToRead", desc := "()I" } : Jvm.MethodName) ({ cls := "CharMachine$Processor", name := "cardsToRead", desc := "()I" } : Jvm.MethodName)) ∈ BIG := List.mem_filter.mpr ⟨List.mem_of_getElem? (i := 235) (by decide +kernel), by decide +kernel⟩
set_option maxRecDepth 100000 in
theorem tw_182 : (Jvm.Cond.code ({ cls := "CharMachine$Processor", name := "cardsToRead", desc := "()I" } : Jvm.MethodName) prog_4_method_2_code (1 : Nat) (Option.some Jvm.ClassFile.FieldType.int)) ∈ BIG := List.mem_filter.mpr ⟨List.mem_of_getElem? (i := 236) rfl, rfl⟩
theorem tw_183 : (Jvm.Cond.methodLink "CharMachine$Processor" (34 : Nat) ({ cls := "CharMachine$Pile", name := "filled", desc := "()I" } : Jvm.MethodName)) ∈ BIG := List.mem_filter.mpr ⟨List.mem_of_getElem? (i := 237) (by decide +kernel), by decide +kernel⟩
theorem tw_184 : (Jvm.Cond.instanceMethod ({ cls := "CharMachine$Pile", name := "filled", desc := "()I" } : Jvm.MethodName)) ∈ BIG := List.mem_filter.mpr ⟨List.mem_of_getElem? (i := 238) (by decide +kernel), by decide +kernel⟩
theorem tw_185 : (Jvm.Cond.selects "CharMachine$Pile" ({ cls := "CharMachine$Pile", name := "filled", desc := "()I" } : Jvm.MethodName) ({ cls := "CharMachine$Pile", name := "filled", desc := "()I" } : Jvm.MethodName)) ∈ BIG := List.mem_filter.mpr ⟨List.mem_of_getElem? (i := 239) (by decide +kernel), by decide +kernel⟩
set_option maxRecDepth 100000 in
theorem tw_186 : (Jvm.Cond.code ({ cls := "CharMachine$Pile", name := "filled", desc := "()I" } : Jvm.MethodName) prog_3_method_2_code (1 : Nat) (Option.some Jvm.ClassFile.FieldType.int)) ∈ BIG := List.mem_filter.mpr ⟨List.mem_of_getElem? (i := 240) rfl, rfl⟩
theorem tw_187 : (Jvm.Cond.methodLink "CharMachine" (144 : Nat) ({ cls := "CharMachine$Pile", name := "filled", desc := "()I" } : Jvm.MethodName)) ∈ BIG := List.mem_filter.mpr ⟨List.mem_of_getElem? (i := 241) (by decide +kernel), by decide +kernel⟩
theorem tw_188 : (Jvm.Cond.methodLink "CharMachine" (147 : Nat) ({ cls := "CharMachine$Store", name := "markCount", desc := "()I" } : Jvm.MethodName)) ∈ BIG := List.mem_filter.mpr ⟨List.mem_of_getElem? (i := 242) (by decide +kernel), by decide +kernel⟩
theorem tw_189 : (Jvm.Cond.instanceMethod ({ cls := "CharMachine$Store", name := "markCount", desc := "()I" } : Jvm.MethodName)) ∈ BIG := List.mem_filter.mpr ⟨List.mem_of_getElem? (i := 243) (by decide +kernel), by decide +kernel⟩
theorem tw_190 : (Jvm.Cond.selects "CharMachine$Store" ({ cls := "CharMachine$Store", name := "markCount", desc := "()I" } : Jvm.MethodName) ({ cls := "CharMachine$Store", name := "markCount", desc := "()I" } : Jvm.MethodName)) ∈ BIG := List.mem_filter.mpr ⟨List.mem_of_getElem? (i := 244) (by decide +kernel), by decide +kernel⟩
set_option maxRecDepth 100000 in
theorem tw_191 : (Jvm.Cond.code ({ cls := "CharMachine$Store", name := "markCount", desc := "()I" } : Jvm.MethodName) prog_5_method_20_code (3 : Nat) (Option.some Jvm.ClassFile.FieldType.int)) ∈ BIG := List.mem_filter.mpr ⟨List.mem_of_getElem? (i := 245) rfl, rfl⟩
theorem tw_192 : (Jvm.Cond.methodLink "CharMachine$Store" (44 : Nat) ({ cls := "CharMachine$Store", name := "hasMark", desc := "(I)Z" } : Jvm.MethodName)) ∈ BIG := List.mem_filter.mpr ⟨List.mem_of_getElem? (i := 246) (by decide +kernel), by decide +kernel⟩
theorem tw_193 : (Jvm.Cond.instanceMethod ({ cls := "CharMachine$Store", name := "hasMark", desc := "(I)Z" } : Jvm.MethodName)) ∈ BIG := List.mem_filter.mpr ⟨List.mem_of_getElem? (i := 247) (by decide +kernel), by decide +kernel⟩
theorem tw_194 : (Jvm.Cond.selects "CharMachine$Store" ({ cls := "CharMachine$Store", name := "hasMark", desc := "(I)Z" } : Jvm.MethodName) ({ cls := "CharMachine$Store", name := "hasMark", desc := "(I)Z" } : Jvm.MethodName)) ∈ BIG := List.mem_filter.mpr ⟨List.mem_of_getElem? (i := 248) (by decide +kernel), by decide +kernel⟩
set_option maxRecDepth 100000 in
theorem tw_195 : (Jvm.Cond.code ({ cls := "CharMachine$Store", name := "hasMark", desc := "(I)Z" } : Jvm.MethodName) prog_5_method_6_code (2 : Nat) (Option.some Jvm.ClassFile.FieldType.boolean)) ∈ BIG := List.mem_filter.mpr ⟨List.mem_of_getElem? (i := 249) rfl, rfl⟩
theorem tw_196 : (Jvm.Cond.methodLink "CharMachineLaw" (47 : Nat) ({ cls := "CharMachineLaw", name := "cell", desc := "([II)I" } : Jvm.MethodName)) ∈ BIG := List.mem_filter.mpr ⟨List.mem_of_getElem? (i := 250) (by decide +kernel), by decide +kernel⟩
theorem tw_197 : (Jvm.Cond.static ({ cls := "CharMachineLaw", name := "cell", desc := "([II)I" } : Jvm.MethodName)) ∈ BIG := List.mem_filter.mpr ⟨List.mem_of_getElem? (i := 251) (by decide +kernel), by decide +kernel⟩
set_option maxRecDepth 100000 in
theorem tw_198 : (Jvm.Cond.code ({ cls := "CharMachineLaw", name := "cell", desc := "([II)I" } : Jvm.MethodName) method_2_code (2 : Nat) (Option.some Jvm.ClassFile.FieldType.int)) ∈ BIG := List.mem_filter.mpr ⟨List.mem_of_getElem? (i := 252) rfl, rfl⟩
theorem tw_199 : (Jvm.Cond.methodLink "CharMachineLaw" (66 : Nat) ({ cls := "CharMachineLaw", name := "put", desc := "(LCharMachine;IJI[J)I" } : Jvm.MethodName)) ∈ BIG := List.mem_filter.mpr ⟨List.mem_of_getElem? (i := 253) (by decide +kernel), by decide +kernel⟩
theorem tw_200 : (Jvm.Cond.static ({ cls := "CharMachineLaw", name := "put", desc := "(LCharMachine;IJI[J)I" } : Jvm.MethodName)) ∈ BIG := List.mem_filter.mpr ⟨List.mem_of_getElem? (i := 254) (by decide +kernel), by decide +kernel⟩
theorem tw_202 : (Jvm.Cond.classLink "CharMachineLaw" (13 : Nat) "java/lang/IllegalArgumentException") ∈ BIG := List.mem_filter.mpr ⟨List.mem_of_getElem? (i := 256) (by decide +kernel), by decide +kernel⟩
theorem tw_203 : (Jvm.Cond.methodLink "CharMachineLaw" (7 : Nat) ({ cls := "CharMachine", name := "put", desc := "(IJI)I" } : Jvm.MethodName)) ∈ BIG := List.mem_filter.mpr ⟨List.mem_of_getElem? (i := 257) (by decide +kernel), by decide +kernel⟩
theorem tw_204 : (Jvm.Cond.instanceMethod ({ cls := "CharMachine", name := "put", desc := "(IJI)I" } : Jvm.MethodName)) ∈ BIG := List.mem_filter.mpr ⟨List.mem_of_getElem? (i := 258) (by decide +kernel), by decide +kernel⟩
theorem tw_205 : (Jvm.Cond.selects "CharMachine" ({ cls := "CharMachine", name := "put", desc := "(IJI)I" } : Jvm.MethodName) ({ cls := "CharMachine", name := "put", desc := "(IJI)I" } : Jvm.MethodName)) ∈ BIG := List.mem_filter.mpr ⟨List.mem_of_getElem? (i := 259) (by decide +kernel), by decide +kernel⟩
set_option maxRecDepth 100000 in
theorem tw_206 : (Jvm.Cond.code ({ cls := "CharMachine", name := "put", desc := "(IJI)I" } : Jvm.MethodName) prog_1_method_3_code (7 : Nat) (Option.some Jvm.ClassFile.FieldType.int)) ∈ BIG := List.mem_filter.mpr ⟨List.mem_of_getElem? (i := 260) rfl, rfl⟩
theorem tw_207 : (Jvm.Cond.methodLink "CharMachine" (53 : Nat) ({ cls := "CharMachine", name := "charactersIn", desc := "(J)I" } : Jvm.MethodName)) ∈ BIG := List.mem_filter.mpr ⟨List.mem_of_getElem? (i := 261) (by decide +kernel), by decide +kernel⟩
theorem tw_208 : (Jvm.Cond.static ({ cls := "CharMachine", name := "charactersIn", desc := "(J)I" } : Jvm.MethodName)) ∈ BIG := List.mem_filter.mpr ⟨List.mem_of_getElem? (i := 262) (by decide +kernel), by decide +kernel⟩
set_option maxRecDepth 100000 in
theorem tw_209 : (Jvm.Cond.code ({ cls := "CharMachine", name := "charactersIn", desc := "(J)I" } : Jvm.MethodName) prog_1_method_17_code (3 : Nat) (Option.some Jvm.ClassFile.FieldType.int)) ∈ BIG := List.mem_filter.mpr ⟨List.mem_of_getElem? (i := 263) rfl, rfl⟩
theorem tw_210 : (Jvm.Cond.methodLink "CharMachine" (64 : Nat) ({ cls := "CharMachine", name := "byteOf", desc := "(JI)I" } : Jvm.MethodName)) ∈ BIG := List.mem_filter.mpr ⟨List.mem_of_getElem? (i := 264) (by decide +kernel), by decide +kernel⟩
theorem tw_211 : (Jvm.Cond.static ({ cls := "CharMachine", name := "byteOf", desc := "(JI)I" } : Jvm.MethodName)) ∈ BIG := List.mem_filter.mpr ⟨List.mem_of_getElem? (i := 265) (by decide +kernel), by decide +kernel⟩
set_option maxRecDepth 100000 in
theorem tw_212 : (Jvm.Cond.code ({ cls := "CharMachine", name := "byteOf", desc := "(JI)I" } : Jvm.MethodName) prog_1_method_16_code (3 : Nat) (Option.some Jvm.ClassFile.FieldType.int)) ∈ BIG := List.mem_filter.mpr ⟨List.mem_of_getElem? (i := 266) rfl, rfl⟩
theorem tw_213 : (Jvm.Cond.constantLong "CharMachine" (150 : Nat) (255 : Int64)) ∈ BIG := List.mem_filter.mpr ⟨List.mem_of_getElem? (i := 267) (by decide +kernel), by decide +kernel⟩
theorem tw_214 : (Jvm.Cond.classLink "CharMachine" (61 : Nat) "java/lang/IllegalArgumentException") ∈ BIG := List.mem_filter.mpr ⟨List.mem_of_getElem? (i := 268) (by decide +kernel), by decide +kernel⟩
theorem tw_215 : (Jvm.Cond.instantiable "java/lang/IllegalArgumentException" (6 : Nat)) ∈ BIG := List.mem_filter.mpr ⟨List.mem_of_getElem? (i := 269) (by decide +kernel), by decide +kernel⟩
theorem tw_223 : (Jvm.Cond.selects "java/lang/IllegalArgumentException" ({ cls := "java/lang/Throwable", name := "fillInStackTrace", desc := "(I)Ljava/lang/Throwable;" } : Jvm.MethodName) ({ cls := "java/lang/Throwable", name := "fillInStackTrace", desc := "(I)Ljava/lang/Throwable;" } : Jvm.MethodName)) ∈ BIG := List.mem_filter.mpr ⟨List.mem_of_getElem? (i := 277) (by decide +kernel), by decide +kernel⟩
theorem tw_224 : (Jvm.Cond.selects "java/lang/IllegalArgumentException" ({ cls := "java/lang/Throwable", name := "fillInStackTrace", desc := "()Ljava/lang/Throwable;" } : Jvm.MethodName) ({ cls := "java/lang/Throwable", name := "fillInStackTrace", desc := "()Ljava/lang/Throwable;" } : Jvm.MethodName)) ∈ BIG := List.mem_filter.mpr ⟨List.mem_of_getElem? (i := 278) (by decide +kernel), by decide +kernel⟩
theorem tw_225 : (Jvm.Cond.lays "java/lang/IllegalArgumentException" "java/lang/Throwable" "cause" "Ljava/lang/Throwable;") ∈ BIG := List.mem_filter.mpr ⟨List.mem_of_getElem? (i := 279) (by decide +kernel), by decide +kernel⟩
theorem tw_226 : (Jvm.Cond.lays "java/lang/Throwable" "java/lang/Throwable" "cause" "Ljava/lang/Throwable;") ∈ BIG := List.mem_filter.mpr ⟨List.mem_of_getElem? (i := 280) (by decide +kernel), by decide +kernel⟩
theorem tw_227 : (Jvm.Cond.lays "java/lang/IllegalArgumentException" "java/lang/Throwable" "stackTrace" "[Ljava/lang/StackTraceElement;") ∈ BIG := List.mem_filter.mpr ⟨List.mem_of_getElem? (i := 281) (by decide +kernel), by decide +kernel⟩
theorem tw_228 : (Jvm.Cond.lays "java/lang/Throwable" "java/lang/Throwable" "stackTrace" "[Ljava/lang/StackTraceElement;") ∈ BIG := List.mem_filter.mpr ⟨List.mem_of_getElem? (i := 282) (by decide +kernel), by decide +kernel⟩
theorem tw_229 : (Jvm.Cond.lays "java/lang/IllegalArgumentException" "java/lang/Throwable" "suppressedExceptions" "Ljava/util/List;") ∈ BIG := List.mem_filter.mpr ⟨List.mem_of_getElem? (i := 283) (by decide +kernel), by decide +kernel⟩
theorem tw_230 : (Jvm.Cond.lays "java/lang/Throwable" "java/lang/Throwable" "suppressedExceptions" "Ljava/util/List;") ∈ BIG := List.mem_filter.mpr ⟨List.mem_of_getElem? (i := 284) (by decide +kernel), by decide +kernel⟩
theorem tw_231 : (Jvm.Cond.lays "java/lang/IllegalArgumentException" "java/lang/Throwable" "detailMessage" "Ljava/lang/String;") ∈ BIG := List.mem_filter.mpr ⟨List.mem_of_getElem? (i := 285) (by decide +kernel), by decide +kernel⟩
theorem tw_232 : (Jvm.Cond.lays "java/lang/Throwable" "java/lang/Throwable" "detailMessage" "Ljava/lang/String;") ∈ BIG := List.mem_filter.mpr ⟨List.mem_of_getElem? (i := 286) (by decide +kernel), by decide +kernel⟩
theorem tw_233 : (Jvm.Cond.lays "java/lang/IllegalArgumentException" "java/lang/Throwable" "backtrace" "Ljava/lang/Object;") ∈ BIG := List.mem_filter.mpr ⟨List.mem_of_getElem? (i := 287) (by decide +kernel), by decide +kernel⟩
theorem tw_234 : (Jvm.Cond.lays "java/lang/Throwable" "java/lang/Throwable" "backtrace" "Ljava/lang/Object;") ∈ BIG := List.mem_filter.mpr ⟨List.mem_of_getElem? (i := 288) (by decide +kernel), by decide +kernel⟩
theorem tw_235 : (Jvm.Cond.fieldLink "java/lang/Throwable" (198 : Nat) "java/lang/Throwable" "backtrace" "Ljava/lang/Object;") ∈ BIG := List.mem_filter.mpr ⟨List.mem_of_getElem? (i := 289) (by decide +kernel), by decide +kernel⟩
theorem tw_237 : (Jvm.Cond.instanceMethod ({ cls := "java/lang/Throwable", name := "<init>", desc := "()V" } : Jvm.MethodName)) ∈ BIG := List.mem_filter.mpr ⟨List.mem_of_getElem? (i := 291) (by decide +kernel), by decide +kernel⟩
set_option maxRecDepth 100000 in
theorem tw_238 : (Jvm.Cond.code ({ cls := "java/lang/Throwable", name := "<init>", desc := "()V" } : Jvm.MethodName) prog_16_method_1_code (1 : Nat) (Option.none : Option Jvm.ClassFile.FieldType)) ∈ BIG := List.mem_filter.mpr ⟨List.mem_of_getElem? (i := 292) rfl, rfl⟩
theorem tw_239 : (Jvm.Cond.methodLink "java/lang/Throwable" (1 : Nat) ({ cls := "java/lang/Object", name := "<init>", desc := "()V" } : Jvm.MethodName)) ∈ BIG := List.mem_filter.mpr ⟨List.mem_of_getElem? (i := 293) (by decide +kernel), by decide +kernel⟩
theorem tw_240 : (Jvm.Cond.fieldLink "java/lang/Throwable" (13 : Nat) "java/lang/Throwable" "UNASSIGNED_STACK" "[Ljava/lang/StackTraceElement;") ∈ BIG := List.mem_filter.mpr ⟨List.mem_of_getElem? (i := 294) (by decide +kernel), by decide +kernel⟩
theorem tw_242 : (Jvm.Cond.fieldLink "java/lang/Throwable" (20 : Nat) "java/lang/Throwable" "SUPPRESSED_SENTINEL" "Ljava/util/List;") ∈ BIG := List.mem_filter.mpr ⟨List.mem_of_getElem? (i := 296) (by decide +kernel), by decide +kernel⟩
theorem tw_244 : (Jvm.Cond.methodLink "java/lang/Throwable" (27 : Nat) ({ cls := "java/lang/Throwable", name := "fillInStackTrace", desc := "()Ljava/lang/Throwable;" } : Jvm.MethodName)) ∈ BIG := List.mem_filter.mpr ⟨List.mem_of_getElem? (i := 298) (by decide +kernel), by decide +kernel⟩
theorem tw_245 : (Jvm.Cond.instanceMethod ({ cls := "java/lang/Throwable", name := "fillInStackTrace", desc := "()Ljava/lang/Throwable;" } : Jvm.MethodName)) ∈ BIG := List.mem_filter.mpr ⟨List.mem_of_getElem? (i := 299) (by decide +kernel), by decide +kernel⟩
theorem tw_247 : (Jvm.Cond.selects "java/lang/IllegalStateException" ({ cls := "java/lang/Throwable", name := "fillInStackTrace", desc := "()Ljava/lang/Throwable;" } : Jvm.MethodName) ({ cls := "java/lang/Throwable", name := "fillInStackTrace", desc := "()Ljava/lang/Throwable;" } : Jvm.MethodName)) ∈ BIG := List.mem_filter.mpr ⟨List.mem_of_getElem? (i := 301) (by decide +kernel), by decide +kernel⟩
theorem tw_248 : (Jvm.Cond.selects "java/lang/IndexOutOfBoundsException" ({ cls := "java/lang/Throwable", name := "fillInStackTrace", desc := "()Ljava/lang/Throwable;" } : Jvm.MethodName) ({ cls := "java/lang/Throwable", name := "fillInStackTrace", desc := "()Ljava/lang/Throwable;" } : Jvm.MethodName)) ∈ BIG := List.mem_filter.mpr ⟨List.mem_of_getElem? (i := 302) (by decide +kernel), by decide +kernel⟩
theorem tw_249 : (Jvm.Cond.selects "java/lang/UnsupportedOperationException" ({ cls := "java/lang/Throwable", name := "fillInStackTrace", desc := "()Ljava/lang/Throwable;" } : Jvm.MethodName) ({ cls := "java/lang/Throwable", name := "fillInStackTrace", desc := "()Ljava/lang/Throwable;" } : Jvm.MethodName)) ∈ BIG := List.mem_filter.mpr ⟨List.mem_of_getElem? (i := 303) (by decide +kernel), by decide +kernel⟩
theorem tw_251 : (Jvm.Cond.methodLink "java/lang/Throwable" (202 : Nat) ({ cls := "java/lang/Throwable", name := "fillInStackTrace", desc := "(I)Ljava/lang/Throwable;" } : Jvm.MethodName)) ∈ BIG := List.mem_filter.mpr ⟨List.mem_of_getElem? (i := 305) (by decide +kernel), by decide +kernel⟩
theorem tw_253 : (Jvm.Cond.instanceMethod ({ cls := "java/lang/Throwable", name := "fillInStackTrace", desc := "(I)Ljava/lang/Throwable;" } : Jvm.MethodName)) ∈ BIG := List.mem_filter.mpr ⟨List.mem_of_getElem? (i := 307) (by decide +kernel), by decide +kernel⟩
theorem tw_254 : (Jvm.Cond.instantiable "java/lang/Throwable" (6 : Nat)) ∈ BIG := List.mem_filter.mpr ⟨List.mem_of_getElem? (i := 308) (by decide +kernel), by decide +kernel⟩
theorem tw_256 : (Jvm.Cond.methodLink "CharMachine" (63 : Nat) ({ cls := "java/lang/IllegalArgumentException", name := "<init>", desc := "()V" } : Jvm.MethodName)) ∈ BIG := List.mem_filter.mpr ⟨List.mem_of_getElem? (i := 310) (by decide +kernel), by decide +kernel⟩
theorem tw_257 : (Jvm.Cond.instanceMethod ({ cls := "java/lang/IllegalArgumentException", name := "<init>", desc := "()V" } : Jvm.MethodName)) ∈ BIG := List.mem_filter.mpr ⟨List.mem_of_getElem? (i := 311) (by decide +kernel), by decide +kernel⟩
set_option maxRecDepth 100000 in
theorem tw_258 : (Jvm.Cond.code ({ cls := "java/lang/IllegalArgumentException", name := "<init>", desc := "()V" } : Jvm.MethodName) prog_9_method_1_code (1 : Nat) (Option.none : Option Jvm.ClassFile.FieldType)) ∈ BIG := List.mem_filter.mpr ⟨List.mem_of_getElem? (i := 312) rfl, rfl⟩
theorem tw_259 : (Jvm.Cond.methodLink "java/lang/IllegalArgumentException" (1 : Nat) ({ cls := "java/lang/RuntimeException", name := "<init>", desc := "()V" } : Jvm.MethodName)) ∈ BIG := List.mem_filter.mpr ⟨List.mem_of_getElem? (i := 313) (by decide +kernel), by decide +kernel⟩
theorem tw_260 : (Jvm.Cond.instanceMethod ({ cls := "java/lang/RuntimeException", name := "<init>", desc := "()V" } : Jvm.MethodName)) ∈ BIG := List.mem_filter.mpr ⟨List.mem_of_getElem? (i := 314) (by decide +kernel), by decide +kernel⟩
set_option maxRecDepth 100000 in
theorem tw_261 : (Jvm.Cond.code ({ cls := "java/lang/RuntimeException", name := "<init>", desc := "()V" } : Jvm.MethodName) prog_14_method_1_code (1 : Nat) (Option.none : Option Jvm.ClassFile.FieldType)) ∈ BIG := List.mem_filter.mpr ⟨List.mem_of_getElem? (i := 315) rfl, rfl⟩
theorem tw_262 : (Jvm.Cond.methodLink "java/lang/RuntimeException" (1 : Nat) ({ cls := "java/lang/Exception", name := "<init>", desc := "()V" } : Jvm.MethodName)) ∈ BIG := List.mem_filter.mpr ⟨List.mem_of_getElem? (i := 316) (by decide +kernel), by decide +kernel⟩
theorem tw_263 : (Jvm.Cond.instanceMethod ({ cls := "java/lang/Exception", name := "<init>", desc := "()V" } : Jvm.MethodName)) ∈ BIG := List.mem_filter.mpr ⟨List.mem_of_getElem? (i := 317) (by decide +kernel), by decide +kernel⟩
set_option maxRecDepth 100000 in
theorem tw_264 : (Jvm.Cond.code ({ cls := "java/lang/Exception", name := "<init>", desc := "()V" } : Jvm.MethodName) prog_8_method_1_code (1 : Nat) (Option.none : Option Jvm.ClassFile.FieldType)) ∈ BIG := List.mem_filter.mpr ⟨List.mem_of_getElem? (i := 318) rfl, rfl⟩
theorem tw_265 : (Jvm.Cond.methodLink "java/lang/Exception" (1 : Nat) ({ cls := "java/lang/Throwable", name := "<init>", desc := "()V" } : Jvm.MethodName)) ∈ BIG := List.mem_filter.mpr ⟨List.mem_of_getElem? (i := 319) (by decide +kernel), by decide +kernel⟩
theorem tw_266 : (Jvm.Cond.fieldLink "java/lang/Throwable" (198 : Nat) "java/lang/Throwable" "backtrace" "Ljava/lang/Object;") ∈ BIG := List.mem_filter.mpr ⟨List.mem_of_getElem? (i := 320) (by decide +kernel), by decide +kernel⟩
theorem tw_267 : (Jvm.Cond.fieldLink "java/lang/Throwable" (7 : Nat) "java/lang/Throwable" "cause" "Ljava/lang/Throwable;") ∈ BIG := List.mem_filter.mpr ⟨List.mem_of_getElem? (i := 321) (by decide +kernel), by decide +kernel⟩
theorem tw_268 : (Jvm.Cond.fieldLink "java/lang/Throwable" (17 : Nat) "java/lang/Throwable" "stackTrace" "[Ljava/lang/StackTraceElement;") ∈ BIG := List.mem_filter.mpr ⟨List.mem_of_getElem? (i := 322) (by decide +kernel), by decide +kernel⟩
theorem tw_269 : (Jvm.Cond.fieldLink "java/lang/Throwable" (24 : Nat) "java/lang/Throwable" "suppressedExceptions" "Ljava/util/List;") ∈ BIG := List.mem_filter.mpr ⟨List.mem_of_getElem? (i := 323) (by decide +kernel), by decide +kernel⟩
theorem tw_274 : (Jvm.Cond.lays "java/lang/IllegalArgumentException" "java/lang/Throwable" "depth" "I") ∈ BIG := List.mem_filter.mpr ⟨List.mem_of_getElem? (i := 328) (by decide +kernel), by decide +kernel⟩
theorem tw_278 : (Jvm.Cond.methodLink "CharMachineLaw" (78 : Nat) ({ cls := "CharMachineLaw", name := "card", desc := "(LCharMachine;[J)I" } : Jvm.MethodName)) ∈ BIG := List.mem_filter.mpr ⟨List.mem_of_getElem? (i := 332) (by decide +kernel), by decide +kernel⟩
theorem tw_279 : (Jvm.Cond.static ({ cls := "CharMachineLaw", name := "card", desc := "(LCharMachine;[J)I" } : Jvm.MethodName)) ∈ BIG := List.mem_filter.mpr ⟨List.mem_of_getElem? (i := 333) (by decide +kernel), by decide +kernel⟩
theorem tw_281 : (Jvm.Cond.classLink "CharMachineLaw" (19 : Nat) "java/lang/IllegalStateException") ∈ BIG := List.mem_filter.mpr ⟨List.mem_of_getElem? (i := 335) (by decide +kernel), by decide +kernel⟩
theorem tw_282 : (Jvm.Cond.methodLink "CharMachineLaw" (15 : Nat) ({ cls := "CharMachine", name := "card", desc := "()I" } : Jvm.MethodName)) ∈ BIG := List.mem_filter.mpr ⟨List.mem_of_getElem? (i := 336) (by decide +kernel), by decide +kernel⟩
theorem tw_283 : (Jvm.Cond.instanceMethod ({ cls := "CharMachine", name := "card", desc := "()I" } : Jvm.MethodName)) ∈ BIG := List.mem_filter.mpr ⟨List.mem_of_getElem? (i := 337) (by decide +kernel), by decide +kernel⟩
theorem tw_284 : (Jvm.Cond.selects "CharMachine" ({ cls := "CharMachine", name := "card", desc := "()I" } : Jvm.MethodName) ({ cls := "CharMachine", name := "card", desc := "()I" } : Jvm.MethodName)) ∈ BIG := List.mem_filter.mpr ⟨List.mem_of_getElem? (i := 338) (by decide +kernel), by decide +kernel⟩
set_option maxRecDepth 100000 in
theorem tw_285 : (Jvm.Cond.code ({ cls := "CharMachine", name := "card", desc := "()I" } : Jvm.MethodName) prog_1_method_5_code (1 : Nat) (Option.some Jvm.ClassFile.FieldType.int)) ∈ BIG := List.mem_filter.mpr ⟨List.mem_of_getElem? (i := 339) rfl, rfl⟩
theorem tw_286 : (Jvm.Cond.methodLink "CharMachine" (71 : Nat) ({ cls := "CharMachine$Pile", name := "isFull", desc := "()Z" } : Jvm.MethodName)) ∈ BIG := List.mem_filter.mpr ⟨List.mem_of_getElem? (i := 340) (by decide +kernel), by decide +kernel⟩
theorem tw_287 : (Jvm.Cond.instanceMethod ({ cls := "CharMachine$Pile", name := "isFull", desc := "()Z" } : Jvm.MethodName)) ∈ BIG := List.mem_filter.mpr ⟨List.mem_of_getElem? (i := 341) (by decide +kernel), by decide +kernel⟩
theorem tw_288 : (Jvm.Cond.selects "CharMachine$Pile" ({ cls := "CharMachine$Pile", name := "isFull", desc := "()Z" } : Jvm.MethodName) ({ cls := "CharMachine$Pile", name := "isFull", desc := "()Z" } : Jvm.MethodName)) ∈ BIG := List.mem_filter.mpr ⟨List.mem_of_getElem? (i := 342) (by decide +kernel), by decide +kernel⟩
set_option maxRecDepth 100000 in
theorem tw_289 : (Jvm.Cond.code ({ cls := "CharMachine$Pile", name := "isFull", desc := "()Z" } : Jvm.MethodName) prog_3_method_3_code (1 : Nat) (Option.some Jvm.ClassFile.FieldType.boolean)) ∈ BIG := List.mem_filter.mpr ⟨List.mem_of_getElem? (i := 343) rfl, rfl⟩
theorem tw_290 : (Jvm.Cond.classLink "CharMachine" (75 : Nat) "java/lang/IllegalStateException") ∈ BIG := List.mem_filter.mpr ⟨List.mem_of_getElem? (i := 344) (by decide +kernel), by decide +kernel⟩
theorem tw_291 : (Jvm.Cond.instantiable "java/lang/IllegalStateException" (6 : Nat)) ∈ BIG := List.mem_filter.mpr ⟨List.mem_of_getElem? (i := 345) (by decide +kernel), by decide +kernel⟩
theorem tw_293 : (Jvm.Cond.selects "java/lang/IllegalStateException" ({ cls := "java/lang/Throwable", name := "fillInStackTrace", desc := "(I)Ljava/lang/Throwable;" } : Jvm.MethodName) ({ cls := "java/lang/Throwable", name := "fillInStackTrace", desc := "(I)Ljava/lang/Throwable;" } : Jvm.MethodName)) ∈ BIG := List.mem_filter.mpr ⟨List.mem_of_getElem? (i := 347) (by decide +kernel), by decide +kernel⟩
theorem tw_294 : (Jvm.Cond.lays "java/lang/IllegalStateException" "java/lang/Throwable" "cause" "Ljava/lang/Throwable;") ∈ BIG := List.mem_filter.mpr ⟨List.mem_of_getElem? (i := 348) (by decide +kernel), by decide +kernel⟩
theorem tw_295 : (Jvm.Cond.lays "java/lang/IllegalStateException" "java/lang/Throwable" "stackTrace" "[Ljava/lang/StackTraceElement;") ∈ BIG := List.mem_filter.mpr ⟨List.mem_of_getElem? (i := 349) (by decide +kernel), by decide +kernel⟩
theorem tw_296 : (Jvm.Cond.lays "java/lang/IllegalStateException" "java/lang/Throwable" "suppressedExceptions" "Ljava/util/List;") ∈ BIG := List.mem_filter.mpr ⟨List.mem_of_getElem? (i := 350) (by decide +kernel), by decide +kernel⟩
theorem tw_297 : (Jvm.Cond.lays "java/lang/IllegalStateException" "java/lang/Throwable" "detailMessage" "Ljava/lang/String;") ∈ BIG := List.mem_filter.mpr ⟨List.mem_of_getElem? (i := 351) (by decide +kernel), by decide +kernel⟩
theorem tw_298 : (Jvm.Cond.lays "java/lang/IllegalStateException" "java/lang/Throwable" "backtrace" "Ljava/lang/Object;") ∈ BIG := List.mem_filter.mpr ⟨List.mem_of_getElem? (i := 352) (by decide +kernel), by decide +kernel⟩
theorem tw_299 : (Jvm.Cond.methodLink "CharMachine" (77 : Nat) ({ cls := "java/lang/IllegalStateException", name := "<init>", desc := "()V" } : Jvm.MethodName)) ∈ BIG := List.mem_filter.mpr ⟨List.mem_of_getElem? (i := 353) (by decide +kernel), by decide +kernel⟩
theorem tw_300 : (Jvm.Cond.instanceMethod ({ cls := "java/lang/IllegalStateException", name := "<init>", desc := "()V" } : Jvm.MethodName)) ∈ BIG := List.mem_filter.mpr ⟨List.mem_of_getElem? (i := 354) (by decide +kernel), by decide +kernel⟩
set_option maxRecDepth 100000 in
theorem tw_301 : (Jvm.Cond.code ({ cls := "java/lang/IllegalStateException", name := "<init>", desc := "()V" } : Jvm.MethodName) prog_10_method_1_code (1 : Nat) (Option.none : Option Jvm.ClassFile.FieldType)) ∈ BIG := List.mem_filter.mpr ⟨List.mem_of_getElem? (i := 355) rfl, rfl⟩
theorem tw_302 : (Jvm.Cond.methodLink "java/lang/IllegalStateException" (1 : Nat) ({ cls := "java/lang/RuntimeException", name := "<init>", desc := "()V" } : Jvm.MethodName)) ∈ BIG := List.mem_filter.mpr ⟨List.mem_of_getElem? (i := 356) (by decide +kernel), by decide +kernel⟩
theorem tw_303 : (Jvm.Cond.lays "java/lang/IllegalStateException" "java/lang/Throwable" "depth" "I") ∈ BIG := List.mem_filter.mpr ⟨List.mem_of_getElem? (i := 357) (by decide +kernel), by decide +kernel⟩
theorem tw_305 : (Jvm.Cond.methodLink "CharMachine" (78 : Nat) ({ cls := "CharMachine$Pile", name := "close", desc := "()V" } : Jvm.MethodName)) ∈ BIG := List.mem_filter.mpr ⟨List.mem_of_getElem? (i := 359) (by decide +kernel), by decide +kernel⟩
theorem tw_306 : (Jvm.Cond.instanceMethod ({ cls := "CharMachine$Pile", name := "close", desc := "()V" } : Jvm.MethodName)) ∈ BIG := List.mem_filter.mpr ⟨List.mem_of_getElem? (i := 360) (by decide +kernel), by decide +kernel⟩
theorem tw_307 : (Jvm.Cond.selects "CharMachine$Pile" ({ cls := "CharMachine$Pile", name := "close", desc := "()V" } : Jvm.MethodName) ({ cls := "CharMachine$Pile", name := "close", desc := "()V" } : Jvm.MethodName)) ∈ BIG := List.mem_filter.mpr ⟨List.mem_of_getElem? (i := 361) (by decide +kernel), by decide +kernel⟩
set_option maxRecDepth 100000 in
theorem tw_308 : (Jvm.Cond.code ({ cls := "CharMachine$Pile", name := "close", desc := "()V" } : Jvm.MethodName) prog_3_method_7_code (1 : Nat) (Option.none : Option Jvm.ClassFile.FieldType)) ∈ BIG := List.mem_filter.mpr ⟨List.mem_of_getElem? (i := 362) rfl, rfl⟩
theorem tw_309 : (Jvm.Cond.methodLink "CharMachineLaw" (86 : Nat) ({ cls := "CharMachineLaw", name := "run", desc := "(LCharMachine;I[J)I" } : Jvm.MethodName)) ∈ BIG := List.mem_filter.mpr ⟨List.mem_of_getElem? (i := 363) (by decide +kernel), by decide +kernel⟩
theorem tw_310 : (Jvm.Cond.static ({ cls := "CharMachineLaw", name := "run", desc := "(LCharMachine;I[J)I" } : Jvm.MethodName)) ∈ BIG := List.mem_filter.mpr ⟨List.mem_of_getElem? (i := 364) (by decide +kernel), by decide +kernel⟩
theorem tw_312 : (Jvm.Cond.methodLink "CharMachineLaw" (21 : Nat) ({ cls := "CharMachine", name := "run", desc := "(I)I" } : Jvm.MethodName)) ∈ BIG := List.mem_filter.mpr ⟨List.mem_of_getElem? (i := 366) (by decide +kernel), by decide +kernel⟩
theorem tw_313 : (Jvm.Cond.instanceMethod ({ cls := "CharMachine", name := "run", desc := "(I)I" } : Jvm.MethodName)) ∈ BIG := List.mem_filter.mpr ⟨List.mem_of_getElem? (i := 367) (by decide +kernel), by decide +kernel⟩
theorem tw_314 : (Jvm.Cond.selects "CharMachine" ({ cls := "CharMachine", name := "run", desc := "(I)I" } : Jvm.MethodName) ({ cls := "CharMachine", name := "run", desc := "(I)I" } : Jvm.MethodName)) ∈ BIG := List.mem_filter.mpr ⟨List.mem_of_getElem? (i := 368) (by decide +kernel), by decide +kernel⟩
set_option maxRecDepth 100000 in
theorem tw_315 : (Jvm.Cond.code ({ cls := "CharMachine", name := "run", desc := "(I)I" } : Jvm.MethodName) prog_1_method_7_code (4 : Nat) (Option.some Jvm.ClassFile.FieldType.int)) ∈ BIG := List.mem_filter.mpr ⟨List.mem_of_getElem? (i := 369) rfl, rfl⟩
theorem tw_316 : (Jvm.Cond.methodLink "CharMachine" (88 : Nat) ({ cls := "CharMachine$Processor", name := "step", desc := "()I" } : Jvm.MethodName)) ∈ BIG := List.mem_filter.mpr ⟨List.mem_of_getElem? (i := 370) (by decide +kernel), by decide +kernel⟩
theorem tw_317 : (Jvm.Cond.instanceMethod ({ cls := "CharMachine$Processor", name := "step", desc := "()I" } : Jvm.MethodName)) ∈ BIG := List.mem_filter.mpr ⟨List.mem_of_getElem? (i := 371) (by decide +kernel), by decide +kernel⟩
theorem tw_318 : (Jvm.Cond.selects "CharMachine$Processor" ({ cls := "CharMachine$Processor", name := "step", desc := "()I" } : Jvm.MethodName) ({ cls := "CharMachine$Processor", name := "step", desc := "()I" } : Jvm.MethodName)) ∈ BIG := List.mem_filter.mpr ⟨List.mem_of_getElem? (i := 372) (by decide +kernel), by decide +kernel⟩
set_option maxRecDepth 100000 in
theorem tw_319 : (Jvm.Cond.code ({ cls := "CharMachine$Processor", name := "step", desc := "()I" } : Jvm.MethodName) prog_4_method_3_code (4 : Nat) (Option.some Jvm.ClassFile.FieldType.int)) ∈ BIG := List.mem_filter.mpr ⟨List.mem_of_getElem? (i := 373) rfl, rfl⟩
theorem tw_320 : (Jvm.Cond.methodLink "CharMachine$Processor" (47 : Nat) ({ cls := "CharMachine$Store", name := "has", desc := "(I)Z" } : Jvm.MethodName)) ∈ BIG := List.mem_filter.mpr ⟨List.mem_of_getElem? (i := 374) (by decide +kernel), by decide +kernel⟩
theorem tw_321 : (Jvm.Cond.methodLink "CharMachine$Processor" (53 : Nat) ({ cls := "CharMachine$Store", name := "hasMark", desc := "(I)Z" } : Jvm.MethodName)) ∈ BIG := List.mem_filter.mpr ⟨List.mem_of_getElem? (i := 375) (by decide +kernel), by decide +kernel⟩
theorem tw_322 : (Jvm.Cond.methodLink "CharMachine$Processor" (56 : Nat) ({ cls := "CharMachine$Store", name := "character", desc := "(I)I" } : Jvm.MethodName)) ∈ BIG := List.mem_filter.mpr ⟨List.mem_of_getElem? (i := 376) (by decide +kernel), by decide +kernel⟩
theorem tw_323 : (Jvm.Cond.instanceMethod ({ cls := "CharMachine$Store", name := "character", desc := "(I)I" } : Jvm.MethodName)) ∈ BIG := List.mem_filter.mpr ⟨List.mem_of_getElem? (i := 377) (by decide +kernel), by decide +kernel⟩
theorem tw_324 : (Jvm.Cond.selects "CharMachine$Store" ({ cls := "CharMachine$Store", name := "character", desc := "(I)I" } : Jvm.MethodName) ({ cls := "CharMachine$Store", name := "character", desc := "(I)I" } : Jvm.MethodName)) ∈ BIG := List.mem_filter.mpr ⟨List.mem_of_getElem? (i := 378) (by decide +kernel), by decide +kernel⟩
set_option maxRecDepth 100000 in
theorem tw_325 : (Jvm.Cond.code ({ cls := "CharMachine$Store", name := "character", desc := "(I)I" } : Jvm.MethodName) prog_5_method_5_code (2 : Nat) (Option.some Jvm.ClassFile.FieldType.int)) ∈ BIG := List.mem_filter.mpr ⟨List.mem_of_getElem? (i := 379) rfl, rfl⟩
theorem tw_326 : (Jvm.Cond.methodLink "CharMachine$Processor" (60 : Nat) ({ cls := "CharMachine$Processor", name := "instructionLength", desc := "()I" } : Jvm.MethodName)) ∈ BIG := List.mem_filter.mpr ⟨List.mem_of_getElem? (i := 380) (by decide +kernel), by decide +kernel⟩
theorem tw_328 : (Jvm.Cond.instanceMethod ({ cls := "CharMachine$Processor", name := "instructionLength", desc := "()I" } : Jvm.MethodName)) ∈ BIG := List.mem_filter.mpr ⟨List.mem_of_getElem? (i := 382) (by decide +kernel), by decide +kernel⟩
set_option maxRecDepth 100000 in
theorem tw_329 : (Jvm.Cond.code ({ cls := "CharMachine$Processor", name := "instructionLength", desc := "()I" } : Jvm.MethodName) prog_4_method_4_code (2 : Nat) (Option.some Jvm.ClassFile.FieldType.int)) ∈ BIG := List.mem_filter.mpr ⟨List.mem_of_getElem? (i := 383) rfl, rfl⟩
theorem tw_330 : (Jvm.Cond.methodLink "CharMachine$Processor" (63 : Nat) ({ cls := "CharMachine$Processor", name := "allows", desc := "(II)Z" } : Jvm.MethodName)) ∈ BIG := List.mem_filter.mpr ⟨List.mem_of_getElem? (i := 384) (by decide +kernel), by decide +kernel⟩
theorem tw_331 : (Jvm.Cond.static ({ cls := "CharMachine$Processor", name := "allows", desc := "(II)Z" } : Jvm.MethodName)) ∈ BIG := List.mem_filter.mpr ⟨List.mem_of_getElem? (i := 385) (by decide +kernel), by decide +kernel⟩
set_option maxRecDepth 100000 in
theorem tw_332 : (Jvm.Cond.code ({ cls := "CharMachine$Processor", name := "allows", desc := "(II)Z" } : Jvm.MethodName) prog_4_method_5_code (2 : Nat) (Option.some Jvm.ClassFile.FieldType.boolean)) ∈ BIG := List.mem_filter.mpr ⟨List.mem_of_getElem? (i := 386) rfl, rfl⟩
theorem tw_333 : (Jvm.Cond.methodLink "CharMachine$Processor" (70 : Nat) ({ cls := "CharMachine$Processor", name := "takeAddresses", desc := "(II)V" } : Jvm.MethodName)) ∈ BIG := List.mem_filter.mpr ⟨List.mem_of_getElem? (i := 387) (by decide +kernel), by decide +kernel⟩
theorem tw_335 : (Jvm.Cond.instanceMethod ({ cls := "CharMachine$Processor", name := "takeAddresses", desc := "(II)V" } : Jvm.MethodName)) ∈ BIG := List.mem_filter.mpr ⟨List.mem_of_getElem? (i := 389) (by decide +kernel), by decide +kernel⟩
set_option maxRecDepth 100000 in
theorem tw_336 : (Jvm.Cond.code ({ cls := "CharMachine$Processor", name := "takeAddresses", desc := "(II)V" } : Jvm.MethodName) prog_4_method_6_code (3 : Nat) (Option.none : Option Jvm.ClassFile.FieldType)) ∈ BIG := List.mem_filter.mpr ⟨List.mem_of_getElem? (i := 390) rfl, rfl⟩
theorem tw_337 : (Jvm.Cond.methodLink "CharMachine$Processor" (78 : Nat) ({ cls := "CharMachine$Store", name := "address", desc := "(I)I" } : Jvm.MethodName)) ∈ BIG := List.mem_filter.mpr ⟨List.mem_of_getElem? (i := 391) (by decide +kernel), by decide +kernel⟩
theorem tw_338 : (Jvm.Cond.instanceMethod ({ cls := "CharMachine$Store", name := "address", desc := "(I)I" } : Jvm.MethodName)) ∈ BIG := List.mem_filter.mpr ⟨List.mem_of_getElem? (i := 392) (by decide +kernel), by decide +kernel⟩
theorem tw_339 : (Jvm.Cond.selects "CharMachine$Store" ({ cls := "CharMachine$Store", name := "address", desc := "(I)I" } : Jvm.MethodName) ({ cls := "CharMachine$Store", name := "address", desc := "(I)I" } : Jvm.MethodName)) ∈ BIG := List.mem_filter.mpr ⟨List.mem_of_getElem? (i := 393) (by decide +kernel), by decide +kernel⟩
set_option maxRecDepth 100000 in
theorem tw_340 : (Jvm.Cond.code ({ cls := "CharMachine$Store", name := "address", desc := "(I)I" } : Jvm.MethodName) prog_5_method_18_code (3 : Nat) (Option.some Jvm.ClassFile.FieldType.int)) ∈ BIG := List.mem_filter.mpr ⟨List.mem_of_getElem? (i := 394) rfl, rfl⟩
theorem tw_341 : (Jvm.Cond.methodLink "CharMachine$Store" (19 : Nat) ({ cls := "CharMachine$Store", name := "zone", desc := "(I)I" } : Jvm.MethodName)) ∈ BIG := List.mem_filter.mpr ⟨List.mem_of_getElem? (i := 395) (by decide +kernel), by decide +kernel⟩
theorem tw_342 : (Jvm.Cond.instanceMethod ({ cls := "CharMachine$Store", name := "zone", desc := "(I)I" } : Jvm.MethodName)) ∈ BIG := List.mem_filter.mpr ⟨List.mem_of_getElem? (i := 396) (by decide +kernel), by decide +kernel⟩
theorem tw_343 : (Jvm.Cond.selects "CharMachine$Store" ({ cls := "CharMachine$Store", name := "zone", desc := "(I)I" } : Jvm.MethodName) ({ cls := "CharMachine$Store", name := "zone", desc := "(I)I" } : Jvm.MethodName)) ∈ BIG := List.mem_filter.mpr ⟨List.mem_of_getElem? (i := 397) (by decide +kernel), by decide +kernel⟩
set_option maxRecDepth 100000 in
theorem tw_344 : (Jvm.Cond.code ({ cls := "CharMachine$Store", name := "zone", desc := "(I)I" } : Jvm.MethodName) prog_5_method_7_code (2 : Nat) (Option.some Jvm.ClassFile.FieldType.int)) ∈ BIG := List.mem_filter.mpr ⟨List.mem_of_getElem? (i := 398) rfl, rfl⟩
theorem tw_345 : (Jvm.Cond.methodLink "CharMachine$Store" (52 : Nat) ({ cls := "CharMachine$Store", name := "digit", desc := "(I)I" } : Jvm.MethodName)) ∈ BIG := List.mem_filter.mpr ⟨List.mem_of_getElem? (i := 399) (by decide +kernel), by decide +kernel⟩
theorem tw_346 : (Jvm.Cond.instanceMethod ({ cls := "CharMachine$Store", name := "digit", desc := "(I)I" } : Jvm.MethodName)) ∈ BIG := List.mem_filter.mpr ⟨List.mem_of_getElem? (i := 400) (by decide +kernel), by decide +kernel⟩
theorem tw_347 : (Jvm.Cond.selects "CharMachine$Store" ({ cls := "CharMachine$Store", name := "digit", desc := "(I)I" } : Jvm.MethodName) ({ cls := "CharMachine$Store", name := "digit", desc := "(I)I" } : Jvm.MethodName)) ∈ BIG := List.mem_filter.mpr ⟨List.mem_of_getElem? (i := 401) (by decide +kernel), by decide +kernel⟩
set_option maxRecDepth 100000 in
theorem tw_348 : (Jvm.Cond.code ({ cls := "CharMachine$Store", name := "digit", desc := "(I)I" } : Jvm.MethodName) prog_5_method_8_code (2 : Nat) (Option.some Jvm.ClassFile.FieldType.int)) ∈ BIG := List.mem_filter.mpr ⟨List.mem_of_getElem? (i := 402) rfl, rfl⟩
theorem tw_349 : (Jvm.Cond.methodLink "CharMachine$Processor" (84 : Nat) ({ cls := "CharMachine$Processor", name := "keepsB", desc := "(I)Z" } : Jvm.MethodName)) ∈ BIG := List.mem_filter.mpr ⟨List.mem_of_getElem? (i := 403) (by decide +kernel), by decide +kernel⟩
theorem tw_350 : (Jvm.Cond.static ({ cls := "CharMachine$Processor", name := "keepsB", desc := "(I)Z" } : Jvm.MethodName)) ∈ BIG := List.mem_filter.mpr ⟨List.mem_of_getElem? (i := 404) (by decide +kernel), by decide +kernel⟩
set_option maxRecDepth 100000 in
theorem tw_351 : (Jvm.Cond.code ({ cls := "CharMachine$Processor", name := "keepsB", desc := "(I)Z" } : Jvm.MethodName) prog_4_method_7_code (1 : Nat) (Option.some Jvm.ClassFile.FieldType.boolean)) ∈ BIG := List.mem_filter.mpr ⟨List.mem_of_getElem? (i := 405) rfl, rfl⟩
theorem tw_352 : (Jvm.Cond.methodLink "CharMachine$Processor" (74 : Nat) ({ cls := "CharMachine$Processor", name := "perform", desc := "(III)I" } : Jvm.MethodName)) ∈ BIG := List.mem_filter.mpr ⟨List.mem_of_getElem? (i := 406) (by decide +kernel), by decide +kernel⟩
theorem tw_354 : (Jvm.Cond.instanceMethod ({ cls := "CharMachine$Processor", name := "perform", desc := "(III)I" } : Jvm.MethodName)) ∈ BIG := List.mem_filter.mpr ⟨List.mem_of_getElem? (i := 408) (by decide +kernel), by decide +kernel⟩
set_option maxRecDepth 100000 in
theorem tw_355 : (Jvm.Cond.code ({ cls := "CharMachine$Processor", name := "perform", desc := "(III)I" } : Jvm.MethodName) prog_4_method_8_code (4 : Nat) (Option.some Jvm.ClassFile.FieldType.int)) ∈ BIG := List.mem_filter.mpr ⟨List.mem_of_getElem? (i := 409) rfl, rfl⟩
theorem tw_356 : (Jvm.Cond.methodLink "CharMachine$Processor" (87 : Nat) ({ cls := "CharMachine$Processor", name := "calculate", desc := "(ZZ)I" } : Jvm.MethodName)) ∈ BIG := List.mem_filter.mpr ⟨List.mem_of_getElem? (i := 410) (by decide +kernel), by decide +kernel⟩
theorem tw_358 : (Jvm.Cond.instanceMethod ({ cls := "CharMachine$Processor", name := "calculate", desc := "(ZZ)I" } : Jvm.MethodName)) ∈ BIG := List.mem_filter.mpr ⟨List.mem_of_getElem? (i := 412) (by decide +kernel), by decide +kernel⟩
set_option maxRecDepth 100000 in
theorem tw_359 : (Jvm.Cond.code ({ cls := "CharMachine$Processor", name := "calculate", desc := "(ZZ)I" } : Jvm.MethodName) prog_4_method_11_code (6 : Nat) (Option.some Jvm.ClassFile.FieldType.int)) ∈ BIG := List.mem_filter.mpr ⟨List.mem_of_getElem? (i := 413) rfl, rfl⟩
theorem tw_360 : (Jvm.Cond.methodLink "CharMachine$Processor" (132 : Nat) ({ cls := "CharMachine$Store", name := "fieldLength", desc := "(I)I" } : Jvm.MethodName)) ∈ BIG := List.mem_filter.mpr ⟨List.mem_of_getElem? (i := 414) (by decide +kernel), by decide +kernel⟩
theorem tw_361 : (Jvm.Cond.instanceMethod ({ cls := "CharMachine$Store", name := "fieldLength", desc := "(I)I" } : Jvm.MethodName)) ∈ BIG := List.mem_filter.mpr ⟨List.mem_of_getElem? (i := 415) (by decide +kernel), by decide +kernel⟩
theorem tw_362 : (Jvm.Cond.selects "CharMachine$Store" ({ cls := "CharMachine$Store", name := "fieldLength", desc := "(I)I" } : Jvm.MethodName) ({ cls := "CharMachine$Store", name := "fieldLength", desc := "(I)I" } : Jvm.MethodName)) ∈ BIG := List.mem_filter.mpr ⟨List.mem_of_getElem? (i := 416) (by decide +kernel), by decide +kernel⟩
set_option maxRecDepth 100000 in
theorem tw_363 : (Jvm.Cond.code ({ cls := "CharMachine$Store", name := "fieldLength", desc := "(I)I" } : Jvm.MethodName) prog_5_method_15_code (2 : Nat) (Option.some Jvm.ClassFile.FieldType.int)) ∈ BIG := List.mem_filter.mpr ⟨List.mem_of_getElem? (i := 417) rfl, rfl⟩
theorem tw_364 : (Jvm.Cond.methodLink "CharMachine$Store" (40 : Nat) ({ cls := "CharMachine$Store", name := "fieldLength", desc := "(II)I" } : Jvm.MethodName)) ∈ BIG := List.mem_filter.mpr ⟨List.mem_of_getElem? (i := 418) (by decide +kernel), by decide +kernel⟩
theorem tw_365 : (Jvm.Cond.instanceMethod ({ cls := "CharMachine$Store", name := "fieldLength", desc := "(II)I" } : Jvm.MethodName)) ∈ BIG := List.mem_filter.mpr ⟨List.mem_of_getElem? (i := 419) (by decide +kernel), by decide +kernel⟩
theorem tw_366 : (Jvm.Cond.selects "CharMachine$Store" ({ cls := "CharMachine$Store", name := "fieldLength", desc := "(II)I" } : Jvm.MethodName) ({ cls := "CharMachine$Store", name := "fieldLength", desc := "(II)I" } : Jvm.MethodName)) ∈ BIG := List.mem_filter.mpr ⟨List.mem_of_getElem? (i := 420) (by decide +kernel), by decide +kernel⟩
set_option maxRecDepth 100000 in
theorem tw_367 : (Jvm.Cond.code ({ cls := "CharMachine$Store", name := "fieldLength", desc := "(II)I" } : Jvm.MethodName) prog_5_method_16_code (4 : Nat) (Option.some Jvm.ClassFile.FieldType.int)) ∈ BIG := List.mem_filter.mpr ⟨List.mem_of_getElem? (i := 421) rfl, rfl⟩
theorem tw_368 : (Jvm.Cond.methodLink "CharMachine$Store" (15 : Nat) ({ cls := "CharMachine$Store", name := "has", desc := "(I)Z" } : Jvm.MethodName)) ∈ BIG := List.mem_filter.mpr ⟨List.mem_of_getElem? (i := 422) (by decide +kernel), by decide +kernel⟩
theorem tw_369 : (Jvm.Cond.methodLink "CharMachine$Processor" (135 : Nat) ({ cls := "CharMachine$Store", name := "fieldLength", desc := "(II)I" } : Jvm.MethodName)) ∈ BIG := List.mem_filter.mpr ⟨List.mem_of_getElem? (i := 423) (by decide +kernel), by decide +kernel⟩
theorem tw_370 : (Jvm.Cond.methodLink "CharMachine$Processor" (138 : Nat) ({ cls := "CharMachine$Store", name := "isMinus", desc := "(I)Z" } : Jvm.MethodName)) ∈ BIG := List.mem_filter.mpr ⟨List.mem_of_getElem? (i := 424) (by decide +kernel), by decide +kernel⟩
theorem tw_371 : (Jvm.Cond.instanceMethod ({ cls := "CharMachine$Store", name := "isMinus", desc := "(I)Z" } : Jvm.MethodName)) ∈ BIG := List.mem_filter.mpr ⟨List.mem_of_getElem? (i := 425) (by decide +kernel), by decide +kernel⟩
theorem tw_372 : (Jvm.Cond.selects "CharMachine$Store" ({ cls := "CharMachine$Store", name := "isMinus", desc := "(I)Z" } : Jvm.MethodName) ({ cls := "CharMachine$Store", name := "isMinus", desc := "(I)Z" } : Jvm.MethodName)) ∈ BIG := List.mem_filter.mpr ⟨List.mem_of_getElem? (i := 426) (by decide +kernel), by decide +kernel⟩
set_option maxRecDepth 100000 in
theorem tw_373 : (Jvm.Cond.code ({ cls := "CharMachine$Store", name := "isMinus", desc := "(I)Z" } : Jvm.MethodName) prog_5_method_9_code (2 : Nat) (Option.some Jvm.ClassFile.FieldType.boolean)) ∈ BIG := List.mem_filter.mpr ⟨List.mem_of_getElem? (i := 427) rfl, rfl⟩
theorem tw_374 : (Jvm.Cond.methodLink "CharMachine$Processor" (141 : Nat) ({ cls := "CharMachine$Arithmetic", name := "readDigits", desc := "(III)V" } : Jvm.MethodName)) ∈ BIG := List.mem_filter.mpr ⟨List.mem_of_getElem? (i := 428) (by decide +kernel), by decide +kernel⟩
theorem tw_375 : (Jvm.Cond.instanceMethod ({ cls := "CharMachine$Arithmetic", name := "readDigits", desc := "(III)V" } : Jvm.MethodName)) ∈ BIG := List.mem_filter.mpr ⟨List.mem_of_getElem? (i := 429) (by decide +kernel), by decide +kernel⟩
theorem tw_376 : (Jvm.Cond.selects "CharMachine$Arithmetic" ({ cls := "CharMachine$Arithmetic", name := "readDigits", desc := "(III)V" } : Jvm.MethodName) ({ cls := "CharMachine$Arithmetic", name := "readDigits", desc := "(III)V" } : Jvm.MethodName)) ∈ BIG := List.mem_filter.mpr ⟨List.mem_of_getElem? (i := 430) (by decide +kernel), by decide +kernel⟩
set_option maxRecDepth 100000 in
theorem tw_377 : (Jvm.Cond.code ({ cls := "CharMachine$Arithmetic", name := "readDigits", desc := "(III)V" } : Jvm.MethodName) prog_2_method_2_code (5 : Nat) (Option.none : Option Jvm.ClassFile.FieldType)) ∈ BIG := List.mem_filter.mpr ⟨List.mem_of_getElem? (i := 431) rfl, rfl⟩
theorem tw_378 : (Jvm.Cond.methodLink "CharMachine$Arithmetic" (23 : Nat) ({ cls := "CharMachine$Store", name := "digit", desc := "(I)I" } : Jvm.MethodName)) ∈ BIG := List.mem_filter.mpr ⟨List.mem_of_getElem? (i := 432) (by decide +kernel), by decide +kernel⟩
theorem tw_379 : (Jvm.Cond.methodLink "CharMachine$Processor" (145 : Nat) ({ cls := "CharMachine$Arithmetic", name := "replace", desc := "(II)V" } : Jvm.MethodName)) ∈ BIG := List.mem_filter.mpr ⟨List.mem_of_getElem? (i := 433) (by decide +kernel), by decide +kernel⟩
theorem tw_380 : (Jvm.Cond.instanceMethod ({ cls := "CharMachine$Arithmetic", name := "replace", desc := "(II)V" } : Jvm.MethodName)) ∈ BIG := List.mem_filter.mpr ⟨List.mem_of_getElem? (i := 434) (by decide +kernel), by decide +kernel⟩
theorem tw_381 : (Jvm.Cond.selects "CharMachine$Arithmetic" ({ cls := "CharMachine$Arithmetic", name := "replace", desc := "(II)V" } : Jvm.MethodName) ({ cls := "CharMachine$Arithmetic", name := "replace", desc := "(II)V" } : Jvm.MethodName)) ∈ BIG := List.mem_filter.mpr ⟨List.mem_of_getElem? (i := 435) (by decide +kernel), by decide +kernel⟩
set_option maxRecDepth 100000 in
theorem tw_382 : (Jvm.Cond.code ({ cls := "CharMachine$Arithmetic", name := "replace", desc := "(II)V" } : Jvm.MethodName) prog_2_method_3_code (4 : Nat) (Option.none : Option Jvm.ClassFile.FieldType)) ∈ BIG := List.mem_filter.mpr ⟨List.mem_of_getElem? (i := 436) rfl, rfl⟩
theorem tw_384 : (Jvm.Cond.static ({ cls := "CharMachine", name := "written", desc := "(I)I" } : Jvm.MethodName)) ∈ BIG := List.mem_filter.mpr ⟨List.mem_of_getElem? (i := 438) (by decide +kernel), by decide +kernel⟩
set_option maxRecDepth 100000 in
theorem tw_385 : (Jvm.Cond.code ({ cls := "CharMachine", name := "written", desc := "(I)I" } : Jvm.MethodName) prog_1_method_18_code (1 : Nat) (Option.some Jvm.ClassFile.FieldType.int)) ∈ BIG := List.mem_filter.mpr ⟨List.mem_of_getElem? (i := 439) rfl, rfl⟩
theorem tw_386 : (Jvm.Cond.methodLink "CharMachine$Arithmetic" (32 : Nat) ({ cls := "CharMachine$Store", name := "write", desc := "(II)V" } : Jvm.MethodName)) ∈ BIG := List.mem_filter.mpr ⟨List.mem_of_getElem? (i := 440) (by decide +kernel), by decide +kernel⟩
theorem tw_387 : (Jvm.Cond.instanceMethod ({ cls := "CharMachine$Store", name := "write", desc := "(II)V" } : Jvm.MethodName)) ∈ BIG := List.mem_filter.mpr ⟨List.mem_of_getElem? (i := 441) (by decide +kernel), by decide +kernel⟩
theorem tw_388 : (Jvm.Cond.selects "CharMachine$Store" ({ cls := "CharMachine$Store", name := "write", desc := "(II)V" } : Jvm.MethodName) ({ cls := "CharMachine$Store", name := "write", desc := "(II)V" } : Jvm.MethodName)) ∈ BIG := List.mem_filter.mpr ⟨List.mem_of_getElem? (i := 442) (by decide +kernel), by decide +kernel⟩
set_option maxRecDepth 100000 in
theorem tw_389 : (Jvm.Cond.code ({ cls := "CharMachine$Store", name := "write", desc := "(II)V" } : Jvm.MethodName) prog_5_method_11_code (3 : Nat) (Option.none : Option Jvm.ClassFile.FieldType)) ∈ BIG := List.mem_filter.mpr ⟨List.mem_of_getElem? (i := 443) rfl, rfl⟩
theorem tw_391 : (Jvm.Cond.static ({ cls := "CharMachine", name := "signZone", desc := "(Z)I" } : Jvm.MethodName)) ∈ BIG := List.mem_filter.mpr ⟨List.mem_of_getElem? (i := 445) (by decide +kernel), by decide +kernel⟩
set_option maxRecDepth 100000 in
theorem tw_392 : (Jvm.Cond.code ({ cls := "CharMachine", name := "signZone", desc := "(Z)I" } : Jvm.MethodName) prog_1_method_19_code (1 : Nat) (Option.some Jvm.ClassFile.FieldType.int)) ∈ BIG := List.mem_filter.mpr ⟨List.mem_of_getElem? (i := 446) rfl, rfl⟩
theorem tw_393 : (Jvm.Cond.methodLink "CharMachine$Processor" (151 : Nat) ({ cls := "CharMachine$Store", name := "writeZone", desc := "(II)V" } : Jvm.MethodName)) ∈ BIG := List.mem_filter.mpr ⟨List.mem_of_getElem? (i := 447) (by decide +kernel), by decide +kernel⟩
theorem tw_394 : (Jvm.Cond.instanceMethod ({ cls := "CharMachine$Store", name := "writeZone", desc := "(II)V" } : Jvm.MethodName)) ∈ BIG := List.mem_filter.mpr ⟨List.mem_of_getElem? (i := 448) (by decide +kernel), by decide +kernel⟩
theorem tw_395 : (Jvm.Cond.selects "CharMachine$Store" ({ cls := "CharMachine$Store", name := "writeZone", desc := "(II)V" } : Jvm.MethodName) ({ cls := "CharMachine$Store", name := "writeZone", desc := "(II)V" } : Jvm.MethodName)) ∈ BIG := List.mem_filter.mpr ⟨List.mem_of_getElem? (i := 449) (by decide +kernel), by decide +kernel⟩
set_option maxRecDepth 100000 in
theorem tw_396 : (Jvm.Cond.code ({ cls := "CharMachine$Store", name := "writeZone", desc := "(II)V" } : Jvm.MethodName) prog_5_method_12_code (3 : Nat) (Option.none : Option Jvm.ClassFile.FieldType)) ∈ BIG := List.mem_filter.mpr ⟨List.mem_of_getElem? (i := 450) rfl, rfl⟩
theorem tw_397 : (Jvm.Cond.methodLink "CharMachine$Store" (23 : Nat) ({ cls := "CharMachine$Store", name := "character", desc := "(I)I" } : Jvm.MethodName)) ∈ BIG := List.mem_filter.mpr ⟨List.mem_of_getElem? (i := 451) (by decide +kernel), by decide +kernel⟩
theorem tw_398 : (Jvm.Cond.methodLink "CharMachine$Store" (26 : Nat) ({ cls := "CharMachine$Store", name := "write", desc := "(II)V" } : Jvm.MethodName)) ∈ BIG := List.mem_filter.mpr ⟨List.mem_of_getElem? (i := 452) (by decide +kernel), by decide +kernel⟩
theorem tw_399 : (Jvm.Cond.methodLink "CharMachine$Processor" (154 : Nat) ({ cls := "CharMachine$Processor", name := "addSigned", desc := "(IZ)V" } : Jvm.MethodName)) ∈ BIG := List.mem_filter.mpr ⟨List.mem_of_getElem? (i := 453) (by decide +kernel), by decide +kernel⟩
theorem tw_401 : (Jvm.Cond.instanceMethod ({ cls := "CharMachine$Processor", name := "addSigned", desc := "(IZ)V" } : Jvm.MethodName)) ∈ BIG := List.mem_filter.mpr ⟨List.mem_of_getElem? (i := 455) (by decide +kernel), by decide +kernel⟩
set_option maxRecDepth 100000 in
theorem tw_402 : (Jvm.Cond.code ({ cls := "CharMachine$Processor", name := "addSigned", desc := "(IZ)V" } : Jvm.MethodName) prog_4_method_12_code (5 : Nat) (Option.none : Option Jvm.ClassFile.FieldType)) ∈ BIG := List.mem_filter.mpr ⟨List.mem_of_getElem? (i := 456) rfl, rfl⟩
theorem tw_403 : (Jvm.Cond.methodLink "CharMachine$Processor" (158 : Nat) ({ cls := "CharMachine$Arithmetic", name := "add", desc := "(II)Z" } : Jvm.MethodName)) ∈ BIG := List.mem_filter.mpr ⟨List.mem_of_getElem? (i := 457) (by decide +kernel), by decide +kernel⟩
theorem tw_404 : (Jvm.Cond.instanceMethod ({ cls := "CharMachine$Arithmetic", name := "add", desc := "(II)Z" } : Jvm.MethodName)) ∈ BIG := List.mem_filter.mpr ⟨List.mem_of_getElem? (i := 458) (by decide +kernel), by decide +kernel⟩
theorem tw_405 : (Jvm.Cond.selects "CharMachine$Arithmetic" ({ cls := "CharMachine$Arithmetic", name := "add", desc := "(II)Z" } : Jvm.MethodName) ({ cls := "CharMachine$Arithmetic", name := "add", desc := "(II)Z" } : Jvm.MethodName)) ∈ BIG := List.mem_filter.mpr ⟨List.mem_of_getElem? (i := 459) (by decide +kernel), by decide +kernel⟩
set_option maxRecDepth 100000 in
theorem tw_406 : (Jvm.Cond.code ({ cls := "CharMachine$Arithmetic", name := "add", desc := "(II)Z" } : Jvm.MethodName) prog_2_method_4_code (7 : Nat) (Option.some Jvm.ClassFile.FieldType.boolean)) ∈ BIG := List.mem_filter.mpr ⟨List.mem_of_getElem? (i := 460) rfl, rfl⟩
theorem tw_407 : (Jvm.Cond.methodLink "CharMachine$Arithmetic" (36 : Nat) ({ cls := "CharMachine$Store", name := "zone", desc := "(I)I" } : Jvm.MethodName)) ∈ BIG := List.mem_filter.mpr ⟨List.mem_of_getElem? (i := 461) (by decide +kernel), by decide +kernel⟩
theorem tw_408 : (Jvm.Cond.methodLink "CharMachine$Processor" (165 : Nat) ({ cls := "CharMachine$Arithmetic", name := "isGreater", desc := "(II)Z" } : Jvm.MethodName)) ∈ BIG := List.mem_filter.mpr ⟨List.mem_of_getElem? (i := 462) (by decide +kernel), by decide +kernel⟩
theorem tw_409 : (Jvm.Cond.instanceMethod ({ cls := "CharMachine$Arithmetic", name := "isGreater", desc := "(II)Z" } : Jvm.MethodName)) ∈ BIG := List.mem_filter.mpr ⟨List.mem_of_getElem? (i := 463) (by decide +kernel), by decide +kernel⟩
theorem tw_410 : (Jvm.Cond.selects "CharMachine$Arithmetic" ({ cls := "CharMachine$Arithmetic", name := "isGreater", desc := "(II)Z" } : Jvm.MethodName) ({ cls := "CharMachine$Arithmetic", name := "isGreater", desc := "(II)Z" } : Jvm.MethodName)) ∈ BIG := List.mem_filter.mpr ⟨List.mem_of_getElem? (i := 464) (by decide +kernel), by decide +kernel⟩
set_option maxRecDepth 100000 in
theorem tw_411 : (Jvm.Cond.code ({ cls := "CharMachine$Arithmetic", name := "isGreater", desc := "(II)Z" } : Jvm.MethodName) prog_2_method_6_code (5 : Nat) (Option.some Jvm.ClassFile.FieldType.boolean)) ∈ BIG := List.mem_filter.mpr ⟨List.mem_of_getElem? (i := 465) rfl, rfl⟩
theorem tw_412 : (Jvm.Cond.methodLink "CharMachine$Processor" (168 : Nat) ({ cls := "CharMachine$Arithmetic", name := "subtract", desc := "(IIZ)V" } : Jvm.MethodName)) ∈ BIG := List.mem_filter.mpr ⟨List.mem_of_getElem? (i := 466) (by decide +kernel), by decide +kernel⟩
theorem tw_413 : (Jvm.Cond.instanceMethod ({ cls := "CharMachine$Arithmetic", name := "subtract", desc := "(IIZ)V" } : Jvm.MethodName)) ∈ BIG := List.mem_filter.mpr ⟨List.mem_of_getElem? (i := 467) (by decide +kernel), by decide +kernel⟩
theorem tw_414 : (Jvm.Cond.selects "CharMachine$Arithmetic" ({ cls := "CharMachine$Arithmetic", name := "subtract", desc := "(IIZ)V" } : Jvm.MethodName) ({ cls := "CharMachine$Arithmetic", name := "subtract", desc := "(IIZ)V" } : Jvm.MethodName)) ∈ BIG := List.mem_filter.mpr ⟨List.mem_of_getElem? (i := 468) (by decide +kernel), by decide +kernel⟩
set_option maxRecDepth 100000 in
theorem tw_415 : (Jvm.Cond.code ({ cls := "CharMachine$Arithmetic", name := "subtract", desc := "(IIZ)V" } : Jvm.MethodName) prog_2_method_5_code (8 : Nat) (Option.none : Option Jvm.ClassFile.FieldType)) ∈ BIG := List.mem_filter.mpr ⟨List.mem_of_getElem? (i := 469) rfl, rfl⟩
theorem tw_416 : (Jvm.Cond.methodLink "CharMachine$Processor" (91 : Nat) ({ cls := "CharMachine$Processor", name := "move", desc := "()I" } : Jvm.MethodName)) ∈ BIG := List.mem_filter.mpr ⟨List.mem_of_getElem? (i := 470) (by decide +kernel), by decide +kernel⟩
theorem tw_418 : (Jvm.Cond.instanceMethod ({ cls := "CharMachine$Processor", name := "move", desc := "()I" } : Jvm.MethodName)) ∈ BIG := List.mem_filter.mpr ⟨List.mem_of_getElem? (i := 472) (by decide +kernel), by decide +kernel⟩
set_option maxRecDepth 100000 in
theorem tw_419 : (Jvm.Cond.code ({ cls := "CharMachine$Processor", name := "move", desc := "()I" } : Jvm.MethodName) prog_4_method_13_code (3 : Nat) (Option.some Jvm.ClassFile.FieldType.int)) ∈ BIG := List.mem_filter.mpr ⟨List.mem_of_getElem? (i := 473) rfl, rfl⟩
theorem tw_420 : (Jvm.Cond.methodLink "CharMachine$Processor" (172 : Nat) ({ cls := "CharMachine$Store", name := "commonLength", desc := "(II)I" } : Jvm.MethodName)) ∈ BIG := List.mem_filter.mpr ⟨List.mem_of_getElem? (i := 474) (by decide +kernel), by decide +kernel⟩
theorem tw_421 : (Jvm.Cond.instanceMethod ({ cls := "CharMachine$Store", name := "commonLength", desc := "(II)I" } : Jvm.MethodName)) ∈ BIG := List.mem_filter.mpr ⟨List.mem_of_getElem? (i := 475) (by decide +kernel), by decide +kernel⟩
theorem tw_422 : (Jvm.Cond.selects "CharMachine$Store" ({ cls := "CharMachine$Store", name := "commonLength", desc := "(II)I" } : Jvm.MethodName) ({ cls := "CharMachine$Store", name := "commonLength", desc := "(II)I" } : Jvm.MethodName)) ∈ BIG := List.mem_filter.mpr ⟨List.mem_of_getElem? (i := 476) (by decide +kernel), by decide +kernel⟩
set_option maxRecDepth 100000 in
theorem tw_423 : (Jvm.Cond.code ({ cls := "CharMachine$Store", name := "commonLength", desc := "(II)I" } : Jvm.MethodName) prog_5_method_17_code (5 : Nat) (Option.some Jvm.ClassFile.FieldType.int)) ∈ BIG := List.mem_filter.mpr ⟨List.mem_of_getElem? (i := 477) rfl, rfl⟩
theorem tw_424 : (Jvm.Cond.methodLink "CharMachine$Store" (47 : Nat) ({ cls := "java/lang/Math", name := "min", desc := "(II)I" } : Jvm.MethodName)) ∈ BIG := List.mem_filter.mpr ⟨List.mem_of_getElem? (i := 478) (by decide +kernel), by decide +kernel⟩
theorem tw_425 : (Jvm.Cond.static ({ cls := "java/lang/Math", name := "min", desc := "(II)I" } : Jvm.MethodName)) ∈ BIG := List.mem_filter.mpr ⟨List.mem_of_getElem? (i := 479) (by decide +kernel), by decide +kernel⟩
set_option maxRecDepth 100000 in
theorem tw_426 : (Jvm.Cond.code ({ cls := "java/lang/Math", name := "min", desc := "(II)I" } : Jvm.MethodName) prog_13_method_69_code (2 : Nat) (Option.some Jvm.ClassFile.FieldType.int)) ∈ BIG := List.mem_filter.mpr ⟨List.mem_of_getElem? (i := 480) rfl, rfl⟩
theorem tw_427 : (Jvm.Cond.methodLink "CharMachine$Processor" (175 : Nat) ({ cls := "CharMachine$Store", name := "write", desc := "(II)V" } : Jvm.MethodName)) ∈ BIG := List.mem_filter.mpr ⟨List.mem_of_getElem? (i := 481) (by decide +kernel), by decide +kernel⟩
theorem tw_428 : (Jvm.Cond.methodLink "CharMachine$Processor" (94 : Nat) ({ cls := "CharMachine$Processor", name := "load", desc := "()I" } : Jvm.MethodName)) ∈ BIG := List.mem_filter.mpr ⟨List.mem_of_getElem? (i := 482) (by decide +kernel), by decide +kernel⟩
theorem tw_430 : (Jvm.Cond.instanceMethod ({ cls := "CharMachine$Processor", name := "load", desc := "()I" } : Jvm.MethodName)) ∈ BIG := List.mem_filter.mpr ⟨List.mem_of_getElem? (i := 484) (by decide +kernel), by decide +kernel⟩
set_option maxRecDepth 100000 in
theorem tw_431 : (Jvm.Cond.code ({ cls := "CharMachine$Processor", name := "load", desc := "()I" } : Jvm.MethodName) prog_4_method_14_code (2 : Nat) (Option.some Jvm.ClassFile.FieldType.int)) ∈ BIG := List.mem_filter.mpr ⟨List.mem_of_getElem? (i := 485) rfl, rfl⟩
theorem tw_432 : (Jvm.Cond.methodLink "CharMachine$Processor" (178 : Nat) ({ cls := "CharMachine$Store", name := "hasSpan", desc := "(II)Z" } : Jvm.MethodName)) ∈ BIG := List.mem_filter.mpr ⟨List.mem_of_getElem? (i := 486) (by decide +kernel), by decide +kernel⟩
theorem tw_433 : (Jvm.Cond.instanceMethod ({ cls := "CharMachine$Store", name := "hasSpan", desc := "(II)Z" } : Jvm.MethodName)) ∈ BIG := List.mem_filter.mpr ⟨List.mem_of_getElem? (i := 487) (by decide +kernel), by decide +kernel⟩
theorem tw_434 : (Jvm.Cond.selects "CharMachine$Store" ({ cls := "CharMachine$Store", name := "hasSpan", desc := "(II)Z" } : Jvm.MethodName) ({ cls := "CharMachine$Store", name := "hasSpan", desc := "(II)Z" } : Jvm.MethodName)) ∈ BIG := List.mem_filter.mpr ⟨List.mem_of_getElem? (i := 488) (by decide +kernel), by decide +kernel⟩
set_option maxRecDepth 100000 in
theorem tw_435 : (Jvm.Cond.code ({ cls := "CharMachine$Store", name := "hasSpan", desc := "(II)Z" } : Jvm.MethodName) prog_5_method_4_code (3 : Nat) (Option.some Jvm.ClassFile.FieldType.boolean)) ∈ BIG := List.mem_filter.mpr ⟨List.mem_of_getElem? (i := 489) rfl, rfl⟩
theorem tw_436 : (Jvm.Cond.methodLink "CharMachine$Processor" (181 : Nat) ({ cls := "CharMachine$Store", name := "copySpan", desc := "(III)V" } : Jvm.MethodName)) ∈ BIG := List.mem_filter.mpr ⟨List.mem_of_getElem? (i := 490) (by decide +kernel), by decide +kernel⟩
theorem tw_437 : (Jvm.Cond.instanceMethod ({ cls := "CharMachine$Store", name := "copySpan", desc := "(III)V" } : Jvm.MethodName)) ∈ BIG := List.mem_filter.mpr ⟨List.mem_of_getElem? (i := 491) (by decide +kernel), by decide +kernel⟩
theorem tw_438 : (Jvm.Cond.selects "CharMachine$Store" ({ cls := "CharMachine$Store", name := "copySpan", desc := "(III)V" } : Jvm.MethodName) ({ cls := "CharMachine$Store", name := "copySpan", desc := "(III)V" } : Jvm.MethodName)) ∈ BIG := List.mem_filter.mpr ⟨List.mem_of_getElem? (i := 492) (by decide +kernel), by decide +kernel⟩
set_option maxRecDepth 100000 in
theorem tw_439 : (Jvm.Cond.code ({ cls := "CharMachine$Store", name := "copySpan", desc := "(III)V" } : Jvm.MethodName) prog_5_method_14_code (4 : Nat) (Option.none : Option Jvm.ClassFile.FieldType)) ∈ BIG := List.mem_filter.mpr ⟨List.mem_of_getElem? (i := 493) rfl, rfl⟩
theorem tw_440 : (Jvm.Cond.methodLink "CharMachine$Store" (34 : Nat) ({ cls := "java/lang/System", name := "arraycopy", desc := "(Ljava/lang/Object;ILjava/lang/Object;II)V" } : Jvm.MethodName)) ∈ BIG := List.mem_filter.mpr ⟨List.mem_of_getElem? (i := 494) (by decide +kernel), by decide +kernel⟩
theorem tw_441 : (Jvm.Cond.static ({ cls := "java/lang/System", name := "arraycopy", desc := "(Ljava/lang/Object;ILjava/lang/Object;II)V" } : Jvm.MethodName)) ∈ BIG := List.mem_filter.mpr ⟨List.mem_of_getElem? (i := 495) (by decide +kernel), by decide +kernel⟩
theorem tw_443 : (Jvm.Cond.methodLink "CharMachine$Processor" (97 : Nat) ({ cls := "CharMachine$Processor", name := "moveBits", desc := "(I)I" } : Jvm.MethodName)) ∈ BIG := List.mem_filter.mpr ⟨List.mem_of_getElem? (i := 497) (by decide +kernel), by decide +kernel⟩
theorem tw_445 : (Jvm.Cond.instanceMethod ({ cls := "CharMachine$Processor", name := "moveBits", desc := "(I)I" } : Jvm.MethodName)) ∈ BIG := List.mem_filter.mpr ⟨List.mem_of_getElem? (i := 499) (by decide +kernel), by decide +kernel⟩
set_option maxRecDepth 100000 in
theorem tw_446 : (Jvm.Cond.code ({ cls := "CharMachine$Processor", name := "moveBits", desc := "(I)I" } : Jvm.MethodName) prog_4_method_15_code (2 : Nat) (Option.some Jvm.ClassFile.FieldType.int)) ∈ BIG := List.mem_filter.mpr ⟨List.mem_of_getElem? (i := 500) rfl, rfl⟩
theorem tw_447 : (Jvm.Cond.methodLink "CharMachine$Processor" (100 : Nat) ({ cls := "CharMachine$Processor", name := "compare", desc := "()I" } : Jvm.MethodName)) ∈ BIG := List.mem_filter.mpr ⟨List.mem_of_getElem? (i := 501) (by decide +kernel), by decide +kernel⟩
theorem tw_449 : (Jvm.Cond.instanceMethod ({ cls := "CharMachine$Processor", name := "compare", desc := "()I" } : Jvm.MethodName)) ∈ BIG := List.mem_filter.mpr ⟨List.mem_of_getElem? (i := 503) (by decide +kernel), by decide +kernel⟩
set_option maxRecDepth 100000 in
theorem tw_450 : (Jvm.Cond.code ({ cls := "CharMachine$Processor", name := "compare", desc := "()I" } : Jvm.MethodName) prog_4_method_16_code (2 : Nat) (Option.some Jvm.ClassFile.FieldType.int)) ∈ BIG := List.mem_filter.mpr ⟨List.mem_of_getElem? (i := 504) rfl, rfl⟩
theorem tw_451 : (Jvm.Cond.methodLink "CharMachine$Processor" (184 : Nat) ({ cls := "CharMachine$Processor", name := "orderOf", desc := "(I)I" } : Jvm.MethodName)) ∈ BIG := List.mem_filter.mpr ⟨List.mem_of_getElem? (i := 505) (by decide +kernel), by decide +kernel⟩
theorem tw_453 : (Jvm.Cond.instanceMethod ({ cls := "CharMachine$Processor", name := "orderOf", desc := "(I)I" } : Jvm.MethodName)) ∈ BIG := List.mem_filter.mpr ⟨List.mem_of_getElem? (i := 507) (by decide +kernel), by decide +kernel⟩
set_option maxRecDepth 100000 in
theorem tw_454 : (Jvm.Cond.code ({ cls := "CharMachine$Processor", name := "orderOf", desc := "(I)I" } : Jvm.MethodName) prog_4_method_17_code (4 : Nat) (Option.some Jvm.ClassFile.FieldType.int)) ∈ BIG := List.mem_filter.mpr ⟨List.mem_of_getElem? (i := 508) rfl, rfl⟩
theorem tw_455 : (Jvm.Cond.methodLink "CharMachine$Processor" (190 : Nat) ({ cls := "CharMachine$Processor", name := "rank", desc := "(I)I" } : Jvm.MethodName)) ∈ BIG := List.mem_filter.mpr ⟨List.mem_of_getElem? (i := 509) (by decide +kernel), by decide +kernel⟩
theorem tw_456 : (Jvm.Cond.static ({ cls := "CharMachine$Processor", name := "rank", desc := "(I)I" } : Jvm.MethodName)) ∈ BIG := List.mem_filter.mpr ⟨List.mem_of_getElem? (i := 510) (by decide +kernel), by decide +kernel⟩
set_option maxRecDepth 100000 in
theorem tw_457 : (Jvm.Cond.code ({ cls := "CharMachine$Processor", name := "rank", desc := "(I)I" } : Jvm.MethodName) prog_4_method_18_code (5 : Nat) (Option.some Jvm.ClassFile.FieldType.int)) ∈ BIG := List.mem_filter.mpr ⟨List.mem_of_getElem? (i := 511) rfl, rfl⟩
theorem tw_458 : (Jvm.Cond.methodLink "CharMachine$Processor" (193 : Nat) ({ cls := "java/lang/Integer", name := "compare", desc := "(II)I" } : Jvm.MethodName)) ∈ BIG := List.mem_filter.mpr ⟨List.mem_of_getElem? (i := 512) (by decide +kernel), by decide +kernel⟩
theorem tw_459 : (Jvm.Cond.static ({ cls := "java/lang/Integer", name := "compare", desc := "(II)I" } : Jvm.MethodName)) ∈ BIG := List.mem_filter.mpr ⟨List.mem_of_getElem? (i := 513) (by decide +kernel), by decide +kernel⟩
set_option maxRecDepth 100000 in
theorem tw_460 : (Jvm.Cond.code ({ cls := "java/lang/Integer", name := "compare", desc := "(II)I" } : Jvm.MethodName) prog_12_method_40_code (2 : Nat) (Option.some Jvm.ClassFile.FieldType.int)) ∈ BIG := List.mem_filter.mpr ⟨List.mem_of_getElem? (i := 514) rfl, rfl⟩
theorem tw_461 : (Jvm.Cond.methodLink "CharMachine$Processor" (103 : Nat) ({ cls := "CharMachine$Processor", name := "changeMarks", desc := "(Z)I" } : Jvm.MethodName)) ∈ BIG := List.mem_filter.mpr ⟨List.mem_of_getElem? (i := 515) (by decide +kernel), by decide +kernel⟩
theorem tw_463 : (Jvm.Cond.instanceMethod ({ cls := "CharMachine$Processor", name := "changeMarks", desc := "(Z)I" } : Jvm.MethodName)) ∈ BIG := List.mem_filter.mpr ⟨List.mem_of_getElem? (i := 517) (by decide +kernel), by decide +kernel⟩
set_option maxRecDepth 100000 in
theorem tw_464 : (Jvm.Cond.code ({ cls := "CharMachine$Processor", name := "changeMarks", desc := "(Z)I" } : Jvm.MethodName) prog_4_method_19_code (2 : Nat) (Option.some Jvm.ClassFile.FieldType.int)) ∈ BIG := List.mem_filter.mpr ⟨List.mem_of_getElem? (i := 518) rfl, rfl⟩
theorem tw_465 : (Jvm.Cond.methodLink "CharMachine$Processor" (197 : Nat) ({ cls := "CharMachine$Store", name := "mark", desc := "(IZ)V" } : Jvm.MethodName)) ∈ BIG := List.mem_filter.mpr ⟨List.mem_of_getElem? (i := 519) (by decide +kernel), by decide +kernel⟩
theorem tw_466 : (Jvm.Cond.instanceMethod ({ cls := "CharMachine$Store", name := "mark", desc := "(IZ)V" } : Jvm.MethodName)) ∈ BIG := List.mem_filter.mpr ⟨List.mem_of_getElem? (i := 520) (by decide +kernel), by decide +kernel⟩
theorem tw_467 : (Jvm.Cond.selects "CharMachine$Store" ({ cls := "CharMachine$Store", name := "mark", desc := "(IZ)V" } : Jvm.MethodName) ({ cls := "CharMachine$Store", name := "mark", desc := "(IZ)V" } : Jvm.MethodName)) ∈ BIG := List.mem_filter.mpr ⟨List.mem_of_getElem? (i := 521) (by decide +kernel), by decide +kernel⟩
set_option maxRecDepth 100000 in
theorem tw_468 : (Jvm.Cond.code ({ cls := "CharMachine$Store", name := "mark", desc := "(IZ)V" } : Jvm.MethodName) prog_5_method_13_code (3 : Nat) (Option.none : Option Jvm.ClassFile.FieldType)) ∈ BIG := List.mem_filter.mpr ⟨List.mem_of_getElem? (i := 522) rfl, rfl⟩
theorem tw_469 : (Jvm.Cond.methodLink "CharMachine$Store" (30 : Nat) ({ cls := "CharMachine$Store", name := "place", desc := "(IIZ)V" } : Jvm.MethodName)) ∈ BIG := List.mem_filter.mpr ⟨List.mem_of_getElem? (i := 523) (by decide +kernel), by decide +kernel⟩
theorem tw_470 : (Jvm.Cond.methodLink "CharMachine$Processor" (107 : Nat) ({ cls := "CharMachine$Processor", name := "clear", desc := "(Z)I" } : Jvm.MethodName)) ∈ BIG := List.mem_filter.mpr ⟨List.mem_of_getElem? (i := 524) (by decide +kernel), by decide +kernel⟩
theorem tw_472 : (Jvm.Cond.instanceMethod ({ cls := "CharMachine$Processor", name := "clear", desc := "(Z)I" } : Jvm.MethodName)) ∈ BIG := List.mem_filter.mpr ⟨List.mem_of_getElem? (i := 526) (by decide +kernel), by decide +kernel⟩
set_option maxRecDepth 100000 in
theorem tw_473 : (Jvm.Cond.code ({ cls := "CharMachine$Processor", name := "clear", desc := "(Z)I" } : Jvm.MethodName) prog_4_method_20_code (4 : Nat) (Option.some Jvm.ClassFile.FieldType.int)) ∈ BIG := List.mem_filter.mpr ⟨List.mem_of_getElem? (i := 527) rfl, rfl⟩
theorem tw_474 : (Jvm.Cond.methodLink "CharMachine$Processor" (200 : Nat) ({ cls := "CharMachine$Store", name := "place", desc := "(IIZ)V" } : Jvm.MethodName)) ∈ BIG := List.mem_filter.mpr ⟨List.mem_of_getElem? (i := 528) (by decide +kernel), by decide +kernel⟩
theorem tw_475 : (Jvm.Cond.methodLink "CharMachine$Processor" (203 : Nat) ({ cls := "CharMachine$Processor", name := "goThere", desc := "()V" } : Jvm.MethodName)) ∈ BIG := List.mem_filter.mpr ⟨List.mem_of_getElem? (i := 529) (by decide +kernel), by decide +kernel⟩
theorem tw_477 : (Jvm.Cond.instanceMethod ({ cls := "CharMachine$Processor", name := "goThere", desc := "()V" } : Jvm.MethodName)) ∈ BIG := List.mem_filter.mpr ⟨List.mem_of_getElem? (i := 531) (by decide +kernel), by decide +kernel⟩
set_option maxRecDepth 100000 in
theorem tw_478 : (Jvm.Cond.code ({ cls := "CharMachine$Processor", name := "goThere", desc := "()V" } : Jvm.MethodName) prog_4_method_9_code (2 : Nat) (Option.none : Option Jvm.ClassFile.FieldType)) ∈ BIG := List.mem_filter.mpr ⟨List.mem_of_getElem? (i := 532) rfl, rfl⟩
theorem tw_479 : (Jvm.Cond.methodLink "CharMachine$Processor" (110 : Nat) ({ cls := "CharMachine$Processor", name := "suppressZeros", desc := "()I" } : Jvm.MethodName)) ∈ BIG := List.mem_filter.mpr ⟨List.mem_of_getElem? (i := 533) (by decide +kernel), by decide +kernel⟩
theorem tw_481 : (Jvm.Cond.instanceMethod ({ cls := "CharMachine$Processor", name := "suppressZeros", desc := "()I" } : Jvm.MethodName)) ∈ BIG := List.mem_filter.mpr ⟨List.mem_of_getElem? (i := 535) (by decide +kernel), by decide +kernel⟩
set_option maxRecDepth 100000 in
theorem tw_482 : (Jvm.Cond.code ({ cls := "CharMachine$Processor", name := "suppressZeros", desc := "()I" } : Jvm.MethodName) prog_4_method_21_code (3 : Nat) (Option.some Jvm.ClassFile.FieldType.int)) ∈ BIG := List.mem_filter.mpr ⟨List.mem_of_getElem? (i := 536) rfl, rfl⟩
theorem tw_483 : (Jvm.Cond.methodLink "CharMachine$Processor" (206 : Nat) ({ cls := "CharMachine$Processor", name := "isSuppressed", desc := "(I)Z" } : Jvm.MethodName)) ∈ BIG := List.mem_filter.mpr ⟨List.mem_of_getElem? (i := 537) (by decide +kernel), by decide +kernel⟩
theorem tw_484 : (Jvm.Cond.static ({ cls := "CharMachine$Processor", name := "isSuppressed", desc := "(I)Z" } : Jvm.MethodName)) ∈ BIG := List.mem_filter.mpr ⟨List.mem_of_getElem? (i := 538) (by decide +kernel), by decide +kernel⟩
set_option maxRecDepth 100000 in
theorem tw_485 : (Jvm.Cond.code ({ cls := "CharMachine$Processor", name := "isSuppressed", desc := "(I)Z" } : Jvm.MethodName) prog_4_method_22_code (1 : Nat) (Option.some Jvm.ClassFile.FieldType.boolean)) ∈ BIG := List.mem_filter.mpr ⟨List.mem_of_getElem? (i := 539) rfl, rfl⟩
theorem tw_486 : (Jvm.Cond.methodLink "CharMachine$Processor" (113 : Nat) ({ cls := "CharMachine$Processor", name := "branch", desc := "(I)I" } : Jvm.MethodName)) ∈ BIG := List.mem_filter.mpr ⟨List.mem_of_getElem? (i := 540) (by decide +kernel), by decide +kernel⟩
theorem tw_488 : (Jvm.Cond.instanceMethod ({ cls := "CharMachine$Processor", name := "branch", desc := "(I)I" } : Jvm.MethodName)) ∈ BIG := List.mem_filter.mpr ⟨List.mem_of_getElem? (i := 542) (by decide +kernel), by decide +kernel⟩
set_option maxRecDepth 100000 in
theorem tw_489 : (Jvm.Cond.code ({ cls := "CharMachine$Processor", name := "branch", desc := "(I)I" } : Jvm.MethodName) prog_4_method_23_code (3 : Nat) (Option.some Jvm.ClassFile.FieldType.int)) ∈ BIG := List.mem_filter.mpr ⟨List.mem_of_getElem? (i := 543) rfl, rfl⟩
theorem tw_490 : (Jvm.Cond.methodLink "CharMachine$Processor" (209 : Nat) ({ cls := "CharMachine$Processor", name := "modifier", desc := "()I" } : Jvm.MethodName)) ∈ BIG := List.mem_filter.mpr ⟨List.mem_of_getElem? (i := 544) (by decide +kernel), by decide +kernel⟩
theorem tw_492 : (Jvm.Cond.instanceMethod ({ cls := "CharMachine$Processor", name := "modifier", desc := "()I" } : Jvm.MethodName)) ∈ BIG := List.mem_filter.mpr ⟨List.mem_of_getElem? (i := 546) (by decide +kernel), by decide +kernel⟩
set_option maxRecDepth 100000 in
theorem tw_493 : (Jvm.Cond.code ({ cls := "CharMachine$Processor", name := "modifier", desc := "()I" } : Jvm.MethodName) prog_4_method_10_code (1 : Nat) (Option.some Jvm.ClassFile.FieldType.int)) ∈ BIG := List.mem_filter.mpr ⟨List.mem_of_getElem? (i := 547) rfl, rfl⟩
theorem tw_494 : (Jvm.Cond.methodLink "CharMachine$Processor" (212 : Nat) ({ cls := "CharMachine$Processor", name := "isIndicated", desc := "(I)Z" } : Jvm.MethodName)) ∈ BIG := List.mem_filter.mpr ⟨List.mem_of_getElem? (i := 548) (by decide +kernel), by decide +kernel⟩
theorem tw_496 : (Jvm.Cond.instanceMethod ({ cls := "CharMachine$Processor", name := "isIndicated", desc := "(I)Z" } : Jvm.MethodName)) ∈ BIG := List.mem_filter.mpr ⟨List.mem_of_getElem? (i := 550) (by decide +kernel), by decide +kernel⟩
set_option maxRecDepth 100000 in
theorem tw_497 : (Jvm.Cond.code ({ cls := "CharMachine$Processor", name := "isIndicated", desc := "(I)Z" } : Jvm.MethodName) prog_4_method_24_code (2 : Nat) (Option.some Jvm.ClassFile.FieldType.boolean)) ∈ BIG := List.mem_filter.mpr ⟨List.mem_of_getElem? (i := 551) rfl, rfl⟩
theorem tw_498 : (Jvm.Cond.methodLink "CharMachine$Processor" (215 : Nat) ({ cls := "CharMachine$Processor", name := "takeOverflow", desc := "()Z" } : Jvm.MethodName)) ∈ BIG := List.mem_filter.mpr ⟨List.mem_of_getElem? (i := 552) (by decide +kernel), by decide +kernel⟩
theorem tw_500 : (Jvm.Cond.instanceMethod ({ cls := "CharMachine$Processor", name := "takeOverflow", desc := "()Z" } : Jvm.MethodName)) ∈ BIG := List.mem_filter.mpr ⟨List.mem_of_getElem? (i := 554) (by decide +kernel), by decide +kernel⟩
set_option maxRecDepth 100000 in
theorem tw_501 : (Jvm.Cond.code ({ cls := "CharMachine$Processor", name := "takeOverflow", desc := "()Z" } : Jvm.MethodName) prog_4_method_25_code (2 : Nat) (Option.some Jvm.ClassFile.FieldType.boolean)) ∈ BIG := List.mem_filter.mpr ⟨List.mem_of_getElem? (i := 555) rfl, rfl⟩
theorem tw_502 : (Jvm.Cond.methodLink "CharMachine$Processor" (116 : Nat) ({ cls := "CharMachine$Processor", name := "branchByPosition", desc := "()I" } : Jvm.MethodName)) ∈ BIG := List.mem_filter.mpr ⟨List.mem_of_getElem? (i := 556) (by decide +kernel), by decide +kernel⟩
theorem tw_504 : (Jvm.Cond.instanceMethod ({ cls := "CharMachine$Processor", name := "branchByPosition", desc := "()I" } : Jvm.MethodName)) ∈ BIG := List.mem_filter.mpr ⟨List.mem_of_getElem? (i := 558) (by decide +kernel), by decide +kernel⟩
set_option maxRecDepth 100000 in
theorem tw_505 : (Jvm.Cond.code ({ cls := "CharMachine$Processor", name := "branchByPosition", desc := "()I" } : Jvm.MethodName) prog_4_method_26_code (2 : Nat) (Option.some Jvm.ClassFile.FieldType.int)) ∈ BIG := List.mem_filter.mpr ⟨List.mem_of_getElem? (i := 559) rfl, rfl⟩
theorem tw_506 : (Jvm.Cond.methodLink "CharMachine$Processor" (222 : Nat) ({ cls := "CharMachine$Processor", name := "isAsAsked", desc := "(II)Z" } : Jvm.MethodName)) ∈ BIG := List.mem_filter.mpr ⟨List.mem_of_getElem? (i := 560) (by decide +kernel), by decide +kernel⟩
theorem tw_508 : (Jvm.Cond.instanceMethod ({ cls := "CharMachine$Processor", name := "isAsAsked", desc := "(II)Z" } : Jvm.MethodName)) ∈ BIG := List.mem_filter.mpr ⟨List.mem_of_getElem? (i := 562) (by decide +kernel), by decide +kernel⟩
set_option maxRecDepth 100000 in
theorem tw_509 : (Jvm.Cond.code ({ cls := "CharMachine$Processor", name := "isAsAsked", desc := "(II)Z" } : Jvm.MethodName) prog_4_method_27_code (4 : Nat) (Option.some Jvm.ClassFile.FieldType.boolean)) ∈ BIG := List.mem_filter.mpr ⟨List.mem_of_getElem? (i := 563) rfl, rfl⟩
theorem tw_510 : (Jvm.Cond.methodLink "CharMachine$Processor" (225 : Nat) ({ cls := "CharMachine$Store", name := "zone", desc := "(I)I" } : Jvm.MethodName)) ∈ BIG := List.mem_filter.mpr ⟨List.mem_of_getElem? (i := 564) (by decide +kernel), by decide +kernel⟩
theorem tw_511 : (Jvm.Cond.methodLink "CharMachine$Processor" (119 : Nat) ({ cls := "CharMachine$Processor", name := "readCard", desc := "(Z)I" } : Jvm.MethodName)) ∈ BIG := List.mem_filter.mpr ⟨List.mem_of_getElem? (i := 565) (by decide +kernel), by decide +kernel⟩
theorem tw_513 : (Jvm.Cond.instanceMethod ({ cls := "CharMachine$Processor", name := "readCard", desc := "(Z)I" } : Jvm.MethodName)) ∈ BIG := List.mem_filter.mpr ⟨List.mem_of_getElem? (i := 567) (by decide +kernel), by decide +kernel⟩
set_option maxRecDepth 100000 in
theorem tw_514 : (Jvm.Cond.code ({ cls := "CharMachine$Processor", name := "readCard", desc := "(Z)I" } : Jvm.MethodName) prog_4_method_28_code (3 : Nat) (Option.some Jvm.ClassFile.FieldType.int)) ∈ BIG := List.mem_filter.mpr ⟨List.mem_of_getElem? (i := 568) rfl, rfl⟩
theorem tw_515 : (Jvm.Cond.methodLink "CharMachine$Processor" (228 : Nat) ({ cls := "CharMachine$Processor", name := "cardsToRead", desc := "()I" } : Jvm.MethodName)) ∈ BIG := List.mem_filter.mpr ⟨List.mem_of_getElem? (i := 569) (by decide +kernel), by decide +kernel⟩
theorem tw_516 : (Jvm.Cond.methodLink "CharMachine$Processor" (231 : Nat) ({ cls := "CharMachine$Pile", name := "character", desc := "(II)I" } : Jvm.MethodName)) ∈ BIG := List.mem_filter.mpr ⟨List.mem_of_getElem? (i := 570) (by decide +kernel), by decide +kernel⟩
theorem tw_517 : (Jvm.Cond.instanceMethod ({ cls := "CharMachine$Pile", name := "character", desc := "(II)I" } : Jvm.MethodName)) ∈ BIG := List.mem_filter.mpr ⟨List.mem_of_getElem? (i := 571) (by decide +kernel), by decide +kernel⟩
theorem tw_518 : (Jvm.Cond.selects "CharMachine$Pile" ({ cls := "CharMachine$Pile", name := "character", desc := "(II)I" } : Jvm.MethodName) ({ cls := "CharMachine$Pile", name := "character", desc := "(II)I" } : Jvm.MethodName)) ∈ BIG := List.mem_filter.mpr ⟨List.mem_of_getElem? (i := 572) (by decide +kernel), by decide +kernel⟩
set_option maxRecDepth 100000 in
theorem tw_519 : (Jvm.Cond.code ({ cls := "CharMachine$Pile", name := "character", desc := "(II)I" } : Jvm.MethodName) prog_3_method_5_code (3 : Nat) (Option.some Jvm.ClassFile.FieldType.int)) ∈ BIG := List.mem_filter.mpr ⟨List.mem_of_getElem? (i := 573) rfl, rfl⟩
theorem tw_520 : (Jvm.Cond.methodLink "CharMachine$Processor" (233 : Nat) ({ cls := "CharMachine$Processor", name := "endTransfer", desc := "(IZ)V" } : Jvm.MethodName)) ∈ BIG := List.mem_filter.mpr ⟨List.mem_of_getElem? (i := 574) (by decide +kernel), by decide +kernel⟩
theorem tw_522 : (Jvm.Cond.instanceMethod ({ cls := "CharMachine$Processor", name := "endTransfer", desc := "(IZ)V" } : Jvm.MethodName)) ∈ BIG := List.mem_filter.mpr ⟨List.mem_of_getElem? (i := 576) (by decide +kernel), by decide +kernel⟩
set_option maxRecDepth 100000 in
theorem tw_523 : (Jvm.Cond.code ({ cls := "CharMachine$Processor", name := "endTransfer", desc := "(IZ)V" } : Jvm.MethodName) prog_4_method_30_code (3 : Nat) (Option.none : Option Jvm.ClassFile.FieldType)) ∈ BIG := List.mem_filter.mpr ⟨List.mem_of_getElem? (i := 577) rfl, rfl⟩
theorem tw_524 : (Jvm.Cond.methodLink "CharMachine$Processor" (122 : Nat) ({ cls := "CharMachine$Processor", name := "fillRow", desc := "(LCharMachine$Pile;IIZ)I" } : Jvm.MethodName)) ∈ BIG := List.mem_filter.mpr ⟨List.mem_of_getElem? (i := 578) (by decide +kernel), by decide +kernel⟩
theorem tw_526 : (Jvm.Cond.instanceMethod ({ cls := "CharMachine$Processor", name := "fillRow", desc := "(LCharMachine$Pile;IIZ)I" } : Jvm.MethodName)) ∈ BIG := List.mem_filter.mpr ⟨List.mem_of_getElem? (i := 580) (by decide +kernel), by decide +kernel⟩
set_option maxRecDepth 100000 in
theorem tw_527 : (Jvm.Cond.code ({ cls := "CharMachine$Processor", name := "fillRow", desc := "(LCharMachine$Pile;IIZ)I" } : Jvm.MethodName) prog_4_method_29_code (5 : Nat) (Option.some Jvm.ClassFile.FieldType.int)) ∈ BIG := List.mem_filter.mpr ⟨List.mem_of_getElem? (i := 581) rfl, rfl⟩
theorem tw_528 : (Jvm.Cond.methodLink "CharMachine$Processor" (236 : Nat) ({ cls := "CharMachine$Pile", name := "isFull", desc := "()Z" } : Jvm.MethodName)) ∈ BIG := List.mem_filter.mpr ⟨List.mem_of_getElem? (i := 582) (by decide +kernel), by decide +kernel⟩
theorem tw_529 : (Jvm.Cond.methodLink "CharMachine$Processor" (239 : Nat) ({ cls := "CharMachine$Pile", name := "copy", desc := "(LCharMachine$Store;I)V" } : Jvm.MethodName)) ∈ BIG := List.mem_filter.mpr ⟨List.mem_of_getElem? (i := 583) (by decide +kernel), by decide +kernel⟩
theorem tw_530 : (Jvm.Cond.instanceMethod ({ cls := "CharMachine$Pile", name := "copy", desc := "(LCharMachine$Store;I)V" } : Jvm.MethodName)) ∈ BIG := List.mem_filter.mpr ⟨List.mem_of_getElem? (i := 584) (by decide +kernel), by decide +kernel⟩
theorem tw_531 : (Jvm.Cond.selects "CharMachine$Pile" ({ cls := "CharMachine$Pile", name := "copy", desc := "(LCharMachine$Store;I)V" } : Jvm.MethodName) ({ cls := "CharMachine$Pile", name := "copy", desc := "(LCharMachine$Store;I)V" } : Jvm.MethodName)) ∈ BIG := List.mem_filter.mpr ⟨List.mem_of_getElem? (i := 585) (by decide +kernel), by decide +kernel⟩
set_option maxRecDepth 100000 in
theorem tw_532 : (Jvm.Cond.code ({ cls := "CharMachine$Pile", name := "copy", desc := "(LCharMachine$Store;I)V" } : Jvm.MethodName) prog_3_method_8_code (4 : Nat) (Option.none : Option Jvm.ClassFile.FieldType)) ∈ BIG := List.mem_filter.mpr ⟨List.mem_of_getElem? (i := 586) rfl, rfl⟩
theorem tw_533 : (Jvm.Cond.methodLink "CharMachine$Pile" (23 : Nat) ({ cls := "CharMachine$Store", name := "character", desc := "(I)I" } : Jvm.MethodName)) ∈ BIG := List.mem_filter.mpr ⟨List.mem_of_getElem? (i := 587) (by decide +kernel), by decide +kernel⟩
theorem tw_534 : (Jvm.Cond.methodLink "CharMachine$Pile" (29 : Nat) ({ cls := "CharMachine$Pile", name := "write", desc := "(II)V" } : Jvm.MethodName)) ∈ BIG := List.mem_filter.mpr ⟨List.mem_of_getElem? (i := 588) (by decide +kernel), by decide +kernel⟩
theorem tw_535 : (Jvm.Cond.methodLink "CharMachine$Pile" (33 : Nat) ({ cls := "CharMachine$Pile", name := "close", desc := "()V" } : Jvm.MethodName)) ∈ BIG := List.mem_filter.mpr ⟨List.mem_of_getElem? (i := 589) (by decide +kernel), by decide +kernel⟩
theorem tw_536 : (Jvm.Cond.methodLink "CharMachine$Processor" (126 : Nat) ({ cls := "CharMachine$Processor", name := "storeAddress", desc := "(I)I" } : Jvm.MethodName)) ∈ BIG := List.mem_filter.mpr ⟨List.mem_of_getElem? (i := 590) (by decide +kernel), by decide +kernel⟩
theorem tw_538 : (Jvm.Cond.instanceMethod ({ cls := "CharMachine$Processor", name := "storeAddress", desc := "(I)I" } : Jvm.MethodName)) ∈ BIG := List.mem_filter.mpr ⟨List.mem_of_getElem? (i := 592) (by decide +kernel), by decide +kernel⟩
set_option maxRecDepth 100000 in
theorem tw_539 : (Jvm.Cond.code ({ cls := "CharMachine$Processor", name := "storeAddress", desc := "(I)I" } : Jvm.MethodName) prog_4_method_31_code (2 : Nat) (Option.some Jvm.ClassFile.FieldType.int)) ∈ BIG := List.mem_filter.mpr ⟨List.mem_of_getElem? (i := 593) rfl, rfl⟩
theorem tw_540 : (Jvm.Cond.methodLink "CharMachine$Processor" (243 : Nat) ({ cls := "java/lang/Math", name := "floorMod", desc := "(II)I" } : Jvm.MethodName)) ∈ BIG := List.mem_filter.mpr ⟨List.mem_of_getElem? (i := 594) (by decide +kernel), by decide +kernel⟩
theorem tw_541 : (Jvm.Cond.static ({ cls := "java/lang/Math", name := "floorMod", desc := "(II)I" } : Jvm.MethodName)) ∈ BIG := List.mem_filter.mpr ⟨List.mem_of_getElem? (i := 595) (by decide +kernel), by decide +kernel⟩
set_option maxRecDepth 100000 in
theorem tw_542 : (Jvm.Cond.code ({ cls := "java/lang/Math", name := "floorMod", desc := "(II)I" } : Jvm.MethodName) prog_13_method_50_code (3 : Nat) (Option.some Jvm.ClassFile.FieldType.int)) ∈ BIG := List.mem_filter.mpr ⟨List.mem_of_getElem? (i := 596) rfl, rfl⟩
theorem tw_543 : (Jvm.Cond.methodLink "CharMachine$Processor" (248 : Nat) ({ cls := "CharMachine$Store", name := "writeAddress", desc := "(II)V" } : Jvm.MethodName)) ∈ BIG := List.mem_filter.mpr ⟨List.mem_of_getElem? (i := 597) (by decide +kernel), by decide +kernel⟩
theorem tw_544 : (Jvm.Cond.instanceMethod ({ cls := "CharMachine$Store", name := "writeAddress", desc := "(II)V" } : Jvm.MethodName)) ∈ BIG := List.mem_filter.mpr ⟨List.mem_of_getElem? (i := 598) (by decide +kernel), by decide +kernel⟩
theorem tw_545 : (Jvm.Cond.selects "CharMachine$Store" ({ cls := "CharMachine$Store", name := "writeAddress", desc := "(II)V" } : Jvm.MethodName) ({ cls := "CharMachine$Store", name := "writeAddress", desc := "(II)V" } : Jvm.MethodName)) ∈ BIG := List.mem_filter.mpr ⟨List.mem_of_getElem? (i := 599) (by decide +kernel), by decide +kernel⟩
set_option maxRecDepth 100000 in
theorem tw_546 : (Jvm.Cond.code ({ cls := "CharMachine$Store", name := "writeAddress", desc := "(II)V" } : Jvm.MethodName) prog_5_method_19_code (4 : Nat) (Option.none : Option Jvm.ClassFile.FieldType)) ∈ BIG := List.mem_filter.mpr ⟨List.mem_of_getElem? (i := 600) rfl, rfl⟩
theorem tw_548 : (Jvm.Cond.methodLink "CharMachine$Processor" (129 : Nat) ({ cls := "CharMachine$Processor", name := "halt", desc := "(Z)I" } : Jvm.MethodName)) ∈ BIG := List.mem_filter.mpr ⟨List.mem_of_getElem? (i := 602) (by decide +kernel), by decide +kernel⟩
theorem tw_550 : (Jvm.Cond.instanceMethod ({ cls := "CharMachine$Processor", name := "halt", desc := "(Z)I" } : Jvm.MethodName)) ∈ BIG := List.mem_filter.mpr ⟨List.mem_of_getElem? (i := 604) (by decide +kernel), by decide +kernel⟩
set_option maxRecDepth 100000 in
theorem tw_551 : (Jvm.Cond.code ({ cls := "CharMachine$Processor", name := "halt", desc := "(Z)I" } : Jvm.MethodName) prog_4_method_32_code (2 : Nat) (Option.some Jvm.ClassFile.FieldType.int)) ∈ BIG := List.mem_filter.mpr ⟨List.mem_of_getElem? (i := 605) rfl, rfl⟩
theorem tw_552 : (Jvm.Cond.methodLink "CharMachineLaw" (90 : Nat) ({ cls := "CharMachineLaw", name := "at", desc := "(LCharMachine;I[J)I" } : Jvm.MethodName)) ∈ BIG := List.mem_filter.mpr ⟨List.mem_of_getElem? (i := 606) (by decide +kernel), by decide +kernel⟩
theorem tw_553 : (Jvm.Cond.static ({ cls := "CharMachineLaw", name := "at", desc := "(LCharMachine;I[J)I" } : Jvm.MethodName)) ∈ BIG := List.mem_filter.mpr ⟨List.mem_of_getElem? (i := 607) (by decide +kernel), by decide +kernel⟩
theorem tw_555 : (Jvm.Cond.classLink "CharMachineLaw" (28 : Nat) "java/lang/IndexOutOfBoundsException") ∈ BIG := List.mem_filter.mpr ⟨List.mem_of_getElem? (i := 609) (by decide +kernel), by decide +kernel⟩
theorem tw_556 : (Jvm.Cond.methodLink "CharMachineLaw" (25 : Nat) ({ cls := "CharMachine", name := "at", desc := "(I)I" } : Jvm.MethodName)) ∈ BIG := List.mem_filter.mpr ⟨List.mem_of_getElem? (i := 610) (by decide +kernel), by decide +kernel⟩
theorem tw_557 : (Jvm.Cond.instanceMethod ({ cls := "CharMachine", name := "at", desc := "(I)I" } : Jvm.MethodName)) ∈ BIG := List.mem_filter.mpr ⟨List.mem_of_getElem? (i := 611) (by decide +kernel), by decide +kernel⟩
theorem tw_558 : (Jvm.Cond.selects "CharMachine" ({ cls := "CharMachine", name := "at", desc := "(I)I" } : Jvm.MethodName) ({ cls := "CharMachine", name := "at", desc := "(I)I" } : Jvm.MethodName)) ∈ BIG := List.mem_filter.mpr ⟨List.mem_of_getElem? (i := 612) (by decide +kernel), by decide +kernel⟩
set_option maxRecDepth 100000 in
theorem tw_559 : (Jvm.Cond.code ({ cls := "CharMachine", name := "at", desc := "(I)I" } : Jvm.MethodName) prog_1_method_8_code (2 : Nat) (Option.some Jvm.ClassFile.FieldType.int)) ∈ BIG := List.mem_filter.mpr ⟨List.mem_of_getElem? (i := 613) rfl, rfl⟩
theorem tw_560 : (Jvm.Cond.classLink "CharMachine" (97 : Nat) "java/lang/IndexOutOfBoundsException") ∈ BIG := List.mem_filter.mpr ⟨List.mem_of_getElem? (i := 614) (by decide +kernel), by decide +kernel⟩
theorem tw_561 : (Jvm.Cond.instantiable "java/lang/IndexOutOfBoundsException" (6 : Nat)) ∈ BIG := List.mem_filter.mpr ⟨List.mem_of_getElem? (i := 615) (by decide +kernel), by decide +kernel⟩
theorem tw_563 : (Jvm.Cond.selects "java/lang/IndexOutOfBoundsException" ({ cls := "java/lang/Throwable", name := "fillInStackTrace", desc := "(I)Ljava/lang/Throwable;" } : Jvm.MethodName) ({ cls := "java/lang/Throwable", name := "fillInStackTrace", desc := "(I)Ljava/lang/Throwable;" } : Jvm.MethodName)) ∈ BIG := List.mem_filter.mpr ⟨List.mem_of_getElem? (i := 617) (by decide +kernel), by decide +kernel⟩
theorem tw_564 : (Jvm.Cond.lays "java/lang/IndexOutOfBoundsException" "java/lang/Throwable" "cause" "Ljava/lang/Throwable;") ∈ BIG := List.mem_filter.mpr ⟨List.mem_of_getElem? (i := 618) (by decide +kernel), by decide +kernel⟩
theorem tw_565 : (Jvm.Cond.lays "java/lang/IndexOutOfBoundsException" "java/lang/Throwable" "stackTrace" "[Ljava/lang/StackTraceElement;") ∈ BIG := List.mem_filter.mpr ⟨List.mem_of_getElem? (i := 619) (by decide +kernel), by decide +kernel⟩
theorem tw_566 : (Jvm.Cond.lays "java/lang/IndexOutOfBoundsException" "java/lang/Throwable" "suppressedExceptions" "Ljava/util/List;") ∈ BIG := List.mem_filter.mpr ⟨List.mem_of_getElem? (i := 620) (by decide +kernel), by decide +kernel⟩
theorem tw_567 : (Jvm.Cond.lays "java/lang/IndexOutOfBoundsException" "java/lang/Throwable" "detailMessage" "Ljava/lang/String;") ∈ BIG := List.mem_filter.mpr ⟨List.mem_of_getElem? (i := 621) (by decide +kernel), by decide +kernel⟩
theorem tw_568 : (Jvm.Cond.lays "java/lang/IndexOutOfBoundsException" "java/lang/Throwable" "backtrace" "Ljava/lang/Object;") ∈ BIG := List.mem_filter.mpr ⟨List.mem_of_getElem? (i := 622) (by decide +kernel), by decide +kernel⟩
theorem tw_569 : (Jvm.Cond.methodLink "CharMachine" (99 : Nat) ({ cls := "java/lang/IndexOutOfBoundsException", name := "<init>", desc := "()V" } : Jvm.MethodName)) ∈ BIG := List.mem_filter.mpr ⟨List.mem_of_getElem? (i := 623) (by decide +kernel), by decide +kernel⟩
theorem tw_570 : (Jvm.Cond.instanceMethod ({ cls := "java/lang/IndexOutOfBoundsException", name := "<init>", desc := "()V" } : Jvm.MethodName)) ∈ BIG := List.mem_filter.mpr ⟨List.mem_of_getElem? (i := 624) (by decide +kernel), by decide +kernel⟩
set_option maxRecDepth 100000 in
theorem tw_571 : (Jvm.Cond.code ({ cls := "java/lang/IndexOutOfBoundsException", name := "<init>", desc := "()V" } : Jvm.MethodName) prog_11_method_1_code (1 : Nat) (Option.none : Option Jvm.ClassFile.FieldType)) ∈ BIG := List.mem_filter.mpr ⟨List.mem_of_getElem? (i := 625) rfl, rfl⟩
theorem tw_572 : (Jvm.Cond.methodLink "java/lang/IndexOutOfBoundsException" (1 : Nat) ({ cls := "java/lang/RuntimeException", name := "<init>", desc := "()V" } : Jvm.MethodName)) ∈ BIG := List.mem_filter.mpr ⟨List.mem_of_getElem? (i := 626) (by decide +kernel), by decide +kernel⟩
theorem tw_573 : (Jvm.Cond.lays "java/lang/IndexOutOfBoundsException" "java/lang/Throwable" "depth" "I") ∈ BIG := List.mem_filter.mpr ⟨List.mem_of_getElem? (i := 627) (by decide +kernel), by decide +kernel⟩
theorem tw_575 : (Jvm.Cond.methodLink "CharMachine" (100 : Nat) ({ cls := "CharMachine$Store", name := "character", desc := "(I)I" } : Jvm.MethodName)) ∈ BIG := List.mem_filter.mpr ⟨List.mem_of_getElem? (i := 629) (by decide +kernel), by decide +kernel⟩
theorem tw_576 : (Jvm.Cond.methodLink "CharMachineLaw" (93 : Nat) ({ cls := "CharMachineLaw", name := "isMarked", desc := "(LCharMachine;I[J)I" } : Jvm.MethodName)) ∈ BIG := List.mem_filter.mpr ⟨List.mem_of_getElem? (i := 630) (by decide +kernel), by decide +kernel⟩
theorem tw_577 : (Jvm.Cond.static ({ cls := "CharMachineLaw", name := "isMarked", desc := "(LCharMachine;I[J)I" } : Jvm.MethodName)) ∈ BIG := List.mem_filter.mpr ⟨List.mem_of_getElem? (i := 631) (by decide +kernel), by decide +kernel⟩
theorem tw_579 : (Jvm.Cond.methodLink "CharMachineLaw" (30 : Nat) ({ cls := "CharMachine", name := "isMarked", desc := "(I)Z" } : Jvm.MethodName)) ∈ BIG := List.mem_filter.mpr ⟨List.mem_of_getElem? (i := 633) (by decide +kernel), by decide +kernel⟩
theorem tw_580 : (Jvm.Cond.instanceMethod ({ cls := "CharMachine", name := "isMarked", desc := "(I)Z" } : Jvm.MethodName)) ∈ BIG := List.mem_filter.mpr ⟨List.mem_of_getElem? (i := 634) (by decide +kernel), by decide +kernel⟩
theorem tw_581 : (Jvm.Cond.selects "CharMachine" ({ cls := "CharMachine", name := "isMarked", desc := "(I)Z" } : Jvm.MethodName) ({ cls := "CharMachine", name := "isMarked", desc := "(I)Z" } : Jvm.MethodName)) ∈ BIG := List.mem_filter.mpr ⟨List.mem_of_getElem? (i := 635) (by decide +kernel), by decide +kernel⟩
set_option maxRecDepth 100000 in
theorem tw_582 : (Jvm.Cond.code ({ cls := "CharMachine", name := "isMarked", desc := "(I)Z" } : Jvm.MethodName) prog_1_method_9_code (2 : Nat) (Option.some Jvm.ClassFile.FieldType.boolean)) ∈ BIG := List.mem_filter.mpr ⟨List.mem_of_getElem? (i := 636) rfl, rfl⟩
theorem tw_583 : (Jvm.Cond.methodLink "CharMachine" (104 : Nat) ({ cls := "CharMachine$Store", name := "hasMark", desc := "(I)Z" } : Jvm.MethodName)) ∈ BIG := List.mem_filter.mpr ⟨List.mem_of_getElem? (i := 637) (by decide +kernel), by decide +kernel⟩
theorem tw_584 : (Jvm.Cond.methodLink "CharMachineLaw" (100 : Nat) ({ cls := "CharMachineLaw", name := "printed", desc := "(LCharMachine;II[J)I" } : Jvm.MethodName)) ∈ BIG := List.mem_filter.mpr ⟨List.mem_of_getElem? (i := 638) (by decide +kernel), by decide +kernel⟩
theorem tw_585 : (Jvm.Cond.static ({ cls := "CharMachineLaw", name := "printed", desc := "(LCharMachine;II[J)I" } : Jvm.MethodName)) ∈ BIG := List.mem_filter.mpr ⟨List.mem_of_getElem? (i := 639) (by decide +kernel), by decide +kernel⟩
theorem tw_587 : (Jvm.Cond.methodLink "CharMachineLaw" (34 : Nat) ({ cls := "CharMachine", name := "printed", desc := "(II)I" } : Jvm.MethodName)) ∈ BIG := List.mem_filter.mpr ⟨List.mem_of_getElem? (i := 641) (by decide +kernel), by decide +kernel⟩
theorem tw_588 : (Jvm.Cond.instanceMethod ({ cls := "CharMachine", name := "printed", desc := "(II)I" } : Jvm.MethodName)) ∈ BIG := List.mem_filter.mpr ⟨List.mem_of_getElem? (i := 642) (by decide +kernel), by decide +kernel⟩
theorem tw_589 : (Jvm.Cond.selects "CharMachine" ({ cls := "CharMachine", name := "printed", desc := "(II)I" } : Jvm.MethodName) ({ cls := "CharMachine", name := "printed", desc := "(II)I" } : Jvm.MethodName)) ∈ BIG := List.mem_filter.mpr ⟨List.mem_of_getElem? (i := 643) (by decide +kernel), by decide +kernel⟩
set_option maxRecDepth 100000 in
theorem tw_590 : (Jvm.Cond.code ({ cls := "CharMachine", name := "printed", desc := "(II)I" } : Jvm.MethodName) prog_1_method_11_code (3 : Nat) (Option.some Jvm.ClassFile.FieldType.int)) ∈ BIG := List.mem_filter.mpr ⟨List.mem_of_getElem? (i := 644) rfl, rfl⟩
theorem tw_591 : (Jvm.Cond.methodLink "CharMachine" (123 : Nat) ({ cls := "CharMachine$Pile", name := "holds", desc := "(II)Z" } : Jvm.MethodName)) ∈ BIG := List.mem_filter.mpr ⟨List.mem_of_getElem? (i := 645) (by decide +kernel), by decide +kernel⟩
theorem tw_592 : (Jvm.Cond.instanceMethod ({ cls := "CharMachine$Pile", name := "holds", desc := "(II)Z" } : Jvm.MethodName)) ∈ BIG := List.mem_filter.mpr ⟨List.mem_of_getElem? (i := 646) (by decide +kernel), by decide +kernel⟩
theorem tw_593 : (Jvm.Cond.selects "CharMachine$Pile" ({ cls := "CharMachine$Pile", name := "holds", desc := "(II)Z" } : Jvm.MethodName) ({ cls := "CharMachine$Pile", name := "holds", desc := "(II)Z" } : Jvm.MethodName)) ∈ BIG := List.mem_filter.mpr ⟨List.mem_of_getElem? (i := 647) (by decide +kernel), by decide +kernel⟩
set_option maxRecDepth 100000 in
theorem tw_594 : (Jvm.Cond.code ({ cls := "CharMachine$Pile", name := "holds", desc := "(II)Z" } : Jvm.MethodName) prog_3_method_4_code (3 : Nat) (Option.some Jvm.ClassFile.FieldType.boolean)) ∈ BIG := List.mem_filter.mpr ⟨List.mem_of_getElem? (i := 648) rfl, rfl⟩
theorem tw_595 : (Jvm.Cond.methodLink "CharMachine" (127 : Nat) ({ cls := "CharMachine$Pile", name := "character", desc := "(II)I" } : Jvm.MethodName)) ∈ BIG := List.mem_filter.mpr ⟨List.mem_of_getElem? (i := 649) (by decide +kernel), by decide +kernel⟩
theorem tw_596 : (Jvm.Cond.methodLink "CharMachineLaw" (104 : Nat) ({ cls := "CharMachineLaw", name := "punched", desc := "(LCharMachine;II[J)I" } : Jvm.MethodName)) ∈ BIG := List.mem_filter.mpr ⟨List.mem_of_getElem? (i := 650) (by decide +kernel), by decide +kernel⟩
theorem tw_597 : (Jvm.Cond.static ({ cls := "CharMachineLaw", name := "punched", desc := "(LCharMachine;II[J)I" } : Jvm.MethodName)) ∈ BIG := List.mem_filter.mpr ⟨List.mem_of_getElem? (i := 651) (by decide +kernel), by decide +kernel⟩
theorem tw_599 : (Jvm.Cond.methodLink "CharMachineLaw" (38 : Nat) ({ cls := "CharMachine", name := "punched", desc := "(II)I" } : Jvm.MethodName)) ∈ BIG := List.mem_filter.mpr ⟨List.mem_of_getElem? (i := 653) (by decide +kernel), by decide +kernel⟩
theorem tw_600 : (Jvm.Cond.instanceMethod ({ cls := "CharMachine", name := "punched", desc := "(II)I" } : Jvm.MethodName)) ∈ BIG := List.mem_filter.mpr ⟨List.mem_of_getElem? (i := 654) (by decide +kernel), by decide +kernel⟩
theorem tw_601 : (Jvm.Cond.selects "CharMachine" ({ cls := "CharMachine", name := "punched", desc := "(II)I" } : Jvm.MethodName) ({ cls := "CharMachine", name := "punched", desc := "(II)I" } : Jvm.MethodName)) ∈ BIG := List.mem_filter.mpr ⟨List.mem_of_getElem? (i := 655) (by decide +kernel), by decide +kernel⟩
set_option maxRecDepth 100000 in
theorem tw_602 : (Jvm.Cond.code ({ cls := "CharMachine", name := "punched", desc := "(II)I" } : Jvm.MethodName) prog_1_method_12_code (3 : Nat) (Option.some Jvm.ClassFile.FieldType.int)) ∈ BIG := List.mem_filter.mpr ⟨List.mem_of_getElem? (i := 656) rfl, rfl⟩
theorem tw_603 : (Jvm.Cond.methodLink "CharMachineLaw" (107 : Nat) ({ cls := "CharMachineLaw", name := "number", desc := "(LCharMachine;I[J)I" } : Jvm.MethodName)) ∈ BIG := List.mem_filter.mpr ⟨List.mem_of_getElem? (i := 657) (by decide +kernel), by decide +kernel⟩
theorem tw_604 : (Jvm.Cond.static ({ cls := "CharMachineLaw", name := "number", desc := "(LCharMachine;I[J)I" } : Jvm.MethodName)) ∈ BIG := List.mem_filter.mpr ⟨List.mem_of_getElem? (i := 658) (by decide +kernel), by decide +kernel⟩
theorem tw_606 : (Jvm.Cond.classLink "CharMachineLaw" (45 : Nat) "java/lang/UnsupportedOperationException") ∈ BIG := List.mem_filter.mpr ⟨List.mem_of_getElem? (i := 660) (by decide +kernel), by decide +kernel⟩
theorem tw_607 : (Jvm.Cond.methodLink "CharMachineLaw" (41 : Nat) ({ cls := "CharMachine", name := "number", desc := "(I)J" } : Jvm.MethodName)) ∈ BIG := List.mem_filter.mpr ⟨List.mem_of_getElem? (i := 661) (by decide +kernel), by decide +kernel⟩
theorem tw_608 : (Jvm.Cond.instanceMethod ({ cls := "CharMachine", name := "number", desc := "(I)J" } : Jvm.MethodName)) ∈ BIG := List.mem_filter.mpr ⟨List.mem_of_getElem? (i := 662) (by decide +kernel), by decide +kernel⟩
theorem tw_609 : (Jvm.Cond.selects "CharMachine" ({ cls := "CharMachine", name := "number", desc := "(I)J" } : Jvm.MethodName) ({ cls := "CharMachine", name := "number", desc := "(I)J" } : Jvm.MethodName)) ∈ BIG := List.mem_filter.mpr ⟨List.mem_of_getElem? (i := 663) (by decide +kernel), by decide +kernel⟩
set_option maxRecDepth 100000 in
theorem tw_610 : (Jvm.Cond.code ({ cls := "CharMachine", name := "number", desc := "(I)J" } : Jvm.MethodName) prog_1_method_13_code (6 : Nat) (Option.some Jvm.ClassFile.FieldType.long)) ∈ BIG := List.mem_filter.mpr ⟨List.mem_of_getElem? (i := 664) rfl, rfl⟩
theorem tw_611 : (Jvm.Cond.methodLink "CharMachine" (130 : Nat) ({ cls := "CharMachine$Store", name := "fieldLength", desc := "(I)I" } : Jvm.MethodName)) ∈ BIG := List.mem_filter.mpr ⟨List.mem_of_getElem? (i := 665) (by decide +kernel), by decide +kernel⟩
theorem tw_612 : (Jvm.Cond.classLink "CharMachine" (133 : Nat) "java/lang/UnsupportedOperationException") ∈ BIG := List.mem_filter.mpr ⟨List.mem_of_getElem? (i := 666) (by decide +kernel), by decide +kernel⟩
theorem tw_613 : (Jvm.Cond.instantiable "java/lang/UnsupportedOperationException" (6 : Nat)) ∈ BIG := List.mem_filter.mpr ⟨List.mem_of_getElem? (i := 667) (by decide +kernel), by decide +kernel⟩
theorem tw_615 : (Jvm.Cond.selects "java/lang/UnsupportedOperationException" ({ cls := "java/lang/Throwable", name := "fillInStackTrace", desc := "(I)Ljava/lang/Throwable;" } : Jvm.MethodName) ({ cls := "java/lang/Throwable", name := "fillInStackTrace", desc := "(I)Ljava/lang/Throwable;" } : Jvm.MethodName)) ∈ BIG := List.mem_filter.mpr ⟨List.mem_of_getElem? (i := 669) (by decide +kernel), by decide +kernel⟩
theorem tw_616 : (Jvm.Cond.lays "java/lang/UnsupportedOperationException" "java/lang/Throwable" "cause" "Ljava/lang/Throwable;") ∈ BIG := List.mem_filter.mpr ⟨List.mem_of_getElem? (i := 670) (by decide +kernel), by decide +kernel⟩
theorem tw_617 : (Jvm.Cond.lays "java/lang/UnsupportedOperationException" "java/lang/Throwable" "stackTrace" "[Ljava/lang/StackTraceElement;") ∈ BIG := List.mem_filter.mpr ⟨List.mem_of_getElem? (i := 671) (by decide +kernel), by decide +kernel⟩
theorem tw_618 : (Jvm.Cond.lays "java/lang/UnsupportedOperationException" "java/lang/Throwable" "suppressedExceptions" "Ljava/util/List;") ∈ BIG := List.mem_filter.mpr ⟨List.mem_of_getElem? (i := 672) (by decide +kernel), by decide +kernel⟩
theorem tw_619 : (Jvm.Cond.lays "java/lang/UnsupportedOperationException" "java/lang/Throwable" "detailMessage" "Ljava/lang/String;") ∈ BIG := List.mem_filter.mpr ⟨List.mem_of_getElem? (i := 673) (by decide +kernel), by decide +kernel⟩
theorem tw_620 : (Jvm.Cond.lays "java/lang/UnsupportedOperationException" "java/lang/Throwable" "backtrace" "Ljava/lang/Object;") ∈ BIG := List.mem_filter.mpr ⟨List.mem_of_getElem? (i := 674) (by decide +kernel), by decide +kernel⟩
theorem tw_621 : (Jvm.Cond.methodLink "CharMachine" (135 : Nat) ({ cls := "java/lang/UnsupportedOperationException", name := "<init>", desc := "()V" } : Jvm.MethodName)) ∈ BIG := List.mem_filter.mpr ⟨List.mem_of_getElem? (i := 675) (by decide +kernel), by decide +kernel⟩
theorem tw_622 : (Jvm.Cond.instanceMethod ({ cls := "java/lang/UnsupportedOperationException", name := "<init>", desc := "()V" } : Jvm.MethodName)) ∈ BIG := List.mem_filter.mpr ⟨List.mem_of_getElem? (i := 676) (by decide +kernel), by decide +kernel⟩
set_option maxRecDepth 100000 in
theorem tw_623 : (Jvm.Cond.code ({ cls := "java/lang/UnsupportedOperationException", name := "<init>", desc := "()V" } : Jvm.MethodName) prog_17_method_1_code (1 : Nat) (Option.none : Option Jvm.ClassFile.FieldType)) ∈ BIG := List.mem_filter.mpr ⟨List.mem_of_getElem? (i := 677) rfl, rfl⟩
theorem tw_624 : (Jvm.Cond.methodLink "java/lang/UnsupportedOperationException" (1 : Nat) ({ cls := "java/lang/RuntimeException", name := "<init>", desc := "()V" } : Jvm.MethodName)) ∈ BIG := List.mem_filter.mpr ⟨List.mem_of_getElem? (i := 678) (by decide +kernel), by decide +kernel⟩
theorem tw_625 : (Jvm.Cond.lays "java/lang/UnsupportedOperationException" "java/lang/Throwable" "depth" "I") ∈ BIG := List.mem_filter.mpr ⟨List.mem_of_getElem? (i := 679) (by decide +kernel), by decide +kernel⟩
theorem tw_627 : (Jvm.Cond.constantLong "CharMachine" (136 : Nat) (10 : Int64)) ∈ BIG := List.mem_filter.mpr ⟨List.mem_of_getElem? (i := 681) (by decide +kernel), by decide +kernel⟩
theorem tw_628 : (Jvm.Cond.methodLink "CharMachine" (138 : Nat) ({ cls := "CharMachine$Store", name := "digit", desc := "(I)I" } : Jvm.MethodName)) ∈ BIG := List.mem_filter.mpr ⟨List.mem_of_getElem? (i := 682) (by decide +kernel), by decide +kernel⟩
theorem tw_629 : (Jvm.Cond.methodLink "CharMachine" (141 : Nat) ({ cls := "CharMachine$Store", name := "isMinus", desc := "(I)Z" } : Jvm.MethodName)) ∈ BIG := List.mem_filter.mpr ⟨List.mem_of_getElem? (i := 683) (by decide +kernel), by decide +kernel⟩
theorem tw_630 : (Jvm.Cond.classLink "CharMachineLaw" (56 : Nat) "CharMachineModel") ∈ BIG := List.mem_filter.mpr ⟨List.mem_of_getElem? (i := 684) (by decide +kernel), by decide +kernel⟩
theorem tw_631 : (Jvm.Cond.instantiable "CharMachineModel" (28 : Nat)) ∈ BIG := List.mem_filter.mpr ⟨List.mem_of_getElem? (i := 685) (by decide +kernel), by decide +kernel⟩
theorem tw_632 : (Jvm.Cond.methodLink "CharMachineLaw" (58 : Nat) ({ cls := "CharMachineModel", name := "<init>", desc := "(I)V" } : Jvm.MethodName)) ∈ BIG := List.mem_filter.mpr ⟨List.mem_of_getElem? (i := 686) (by decide +kernel), by decide +kernel⟩
theorem tw_633 : (Jvm.Cond.instanceMethod ({ cls := "CharMachineModel", name := "<init>", desc := "(I)V" } : Jvm.MethodName)) ∈ BIG := List.mem_filter.mpr ⟨List.mem_of_getElem? (i := 687) (by decide +kernel), by decide +kernel⟩
set_option maxRecDepth 100000 in
theorem tw_634 : (Jvm.Cond.code ({ cls := "CharMachineModel", name := "<init>", desc := "(I)V" } : Jvm.MethodName) prog_7_method_1_code (2 : Nat) (Option.none : Option Jvm.ClassFile.FieldType)) ∈ BIG := List.mem_filter.mpr ⟨List.mem_of_getElem? (i := 688) rfl, rfl⟩
theorem tw_635 : (Jvm.Cond.methodLink "CharMachineModel" (1 : Nat) ({ cls := "java/lang/Object", name := "<init>", desc := "()V" } : Jvm.MethodName)) ∈ BIG := List.mem_filter.mpr ⟨List.mem_of_getElem? (i := 689) (by decide +kernel), by decide +kernel⟩
theorem tw_636 : (Jvm.Cond.fieldLink "CharMachineModel" (43 : Nat) "CharMachineModel" "thrown" "I") ∈ BIG := List.mem_filter.mpr ⟨List.mem_of_getElem? (i := 690) (by decide +kernel), by decide +kernel⟩
theorem tw_637 : (Jvm.Cond.fieldLink "CharMachineModel" (39 : Nat) "CharMachineModel" "size" "I") ∈ BIG := List.mem_filter.mpr ⟨List.mem_of_getElem? (i := 691) (by decide +kernel), by decide +kernel⟩
theorem tw_638 : (Jvm.Cond.fieldLink "CharMachineModel" (7 : Nat) "CharMachineModel" "store" "[B") ∈ BIG := List.mem_filter.mpr ⟨List.mem_of_getElem? (i := 692) (by decide +kernel), by decide +kernel⟩
theorem tw_639 : (Jvm.Cond.fieldLink "CharMachineModel" (13 : Nat) "CharMachineModel" "mark" "[Z") ∈ BIG := List.mem_filter.mpr ⟨List.mem_of_getElem? (i := 693) (by decide +kernel), by decide +kernel⟩
theorem tw_640 : (Jvm.Cond.fieldLink "CharMachineModel" (65 : Nat) "CharMachineModel" "at" "I") ∈ BIG := List.mem_filter.mpr ⟨List.mem_of_getElem? (i := 694) (by decide +kernel), by decide +kernel⟩
theorem tw_641 : (Jvm.Cond.fieldLink "CharMachineModel" (85 : Nat) "CharMachineModel" "a" "I") ∈ BIG := List.mem_filter.mpr ⟨List.mem_of_getElem? (i := 695) (by decide +kernel), by decide +kernel⟩
theorem tw_642 : (Jvm.Cond.fieldLink "CharMachineModel" (75 : Nat) "CharMachineModel" "b" "I") ∈ BIG := List.mem_filter.mpr ⟨List.mem_of_getElem? (i := 696) (by decide +kernel), by decide +kernel⟩
theorem tw_643 : (Jvm.Cond.fieldLink "CharMachineModel" (113 : Nat) "CharMachineModel" "compared" "I") ∈ BIG := List.mem_filter.mpr ⟨List.mem_of_getElem? (i := 697) (by decide +kernel), by decide +kernel⟩
theorem tw_644 : (Jvm.Cond.fieldLink "CharMachineModel" (98 : Nat) "CharMachineModel" "overflow" "Z") ∈ BIG := List.mem_filter.mpr ⟨List.mem_of_getElem? (i := 698) (by decide +kernel), by decide +kernel⟩
theorem tw_645 : (Jvm.Cond.fieldLink "CharMachineModel" (131 : Nat) "CharMachineModel" "last" "Z") ∈ BIG := List.mem_filter.mpr ⟨List.mem_of_getElem? (i := 699) (by decide +kernel), by decide +kernel⟩
theorem tw_646 : (Jvm.Cond.fieldLink "CharMachineModel" (210 : Nat) "CharMachineModel" "steps" "I") ∈ BIG := List.mem_filter.mpr ⟨List.mem_of_getElem? (i := 700) (by decide +kernel), by decide +kernel⟩
theorem tw_647 : (Jvm.Cond.fieldLink "CharMachineModel" (207 : Nat) "CharMachineModel" "answer" "I") ∈ BIG := List.mem_filter.mpr ⟨List.mem_of_getElem? (i := 701) (by decide +kernel), by decide +kernel⟩
theorem tw_648 : (Jvm.Cond.fieldLink "CharMachineModel" (91 : Nat) "CharMachineModel" "op" "I") ∈ BIG := List.mem_filter.mpr ⟨List.mem_of_getElem? (i := 702) (by decide +kernel), by decide +kernel⟩
theorem tw_649 : (Jvm.Cond.fieldLink "CharMachineModel" (119 : Nat) "CharMachineModel" "length" "I") ∈ BIG := List.mem_filter.mpr ⟨List.mem_of_getElem? (i := 703) (by decide +kernel), by decide +kernel⟩
theorem tw_650 : (Jvm.Cond.fieldLink "CharMachineModel" (125 : Nat) "CharMachineModel" "from" "I") ∈ BIG := List.mem_filter.mpr ⟨List.mem_of_getElem? (i := 704) (by decide +kernel), by decide +kernel⟩
theorem tw_651 : (Jvm.Cond.fieldLink "CharMachineModel" (149 : Nat) "CharMachineModel" "hadA" "I") ∈ BIG := List.mem_filter.mpr ⟨List.mem_of_getElem? (i := 705) (by decide +kernel), by decide +kernel⟩
theorem tw_652 : (Jvm.Cond.fieldLink "CharMachineModel" (152 : Nat) "CharMachineModel" "hadB" "I") ∈ BIG := List.mem_filter.mpr ⟨List.mem_of_getElem? (i := 706) (by decide +kernel), by decide +kernel⟩
theorem tw_653 : (Jvm.Cond.fieldLink "CharMachineModel" (17 : Nat) "CharMachineModel" "making" "[B") ∈ BIG := List.mem_filter.mpr ⟨List.mem_of_getElem? (i := 707) (by decide +kernel), by decide +kernel⟩
theorem tw_654 : (Jvm.Cond.fieldLink "CharMachineModel" (59 : Nat) "CharMachineModel" "cards" "I") ∈ BIG := List.mem_filter.mpr ⟨List.mem_of_getElem? (i := 708) (by decide +kernel), by decide +kernel⟩
theorem tw_655 : (Jvm.Cond.fieldLink "CharMachineModel" (62 : Nat) "CharMachineModel" "read" "I") ∈ BIG := List.mem_filter.mpr ⟨List.mem_of_getElem? (i := 709) (by decide +kernel), by decide +kernel⟩
theorem tw_656 : (Jvm.Cond.fieldLink "CharMachineModel" (20 : Nat) "CharMachineModel" "card" "[B") ∈ BIG := List.mem_filter.mpr ⟨List.mem_of_getElem? (i := 710) (by decide +kernel), by decide +kernel⟩
theorem tw_657 : (Jvm.Cond.fieldLink "CharMachineModel" (134 : Nat) "CharMachineModel" "lines" "I") ∈ BIG := List.mem_filter.mpr ⟨List.mem_of_getElem? (i := 711) (by decide +kernel), by decide +kernel⟩
theorem tw_658 : (Jvm.Cond.fieldLink "CharMachineModel" (23 : Nat) "CharMachineModel" "line" "[B") ∈ BIG := List.mem_filter.mpr ⟨List.mem_of_getElem? (i := 712) (by decide +kernel), by decide +kernel⟩
theorem tw_659 : (Jvm.Cond.fieldLink "CharMachineModel" (137 : Nat) "CharMachineModel" "punched" "I") ∈ BIG := List.mem_filter.mpr ⟨List.mem_of_getElem? (i := 713) (by decide +kernel), by decide +kernel⟩
theorem tw_660 : (Jvm.Cond.fieldLink "CharMachineModel" (26 : Nat) "CharMachineModel" "punch" "[B") ∈ BIG := List.mem_filter.mpr ⟨List.mem_of_getElem? (i := 714) (by decide +kernel), by decide +kernel⟩
theorem tw_661 : (Jvm.Cond.fieldLink "CharMachineModel" (29 : Nat) "CharMachineModel" "one" "[I") ∈ BIG := List.mem_filter.mpr ⟨List.mem_of_getElem? (i := 715) (by decide +kernel), by decide +kernel⟩
theorem tw_662 : (Jvm.Cond.fieldLink "CharMachineModel" (33 : Nat) "CharMachineModel" "two" "[I") ∈ BIG := List.mem_filter.mpr ⟨List.mem_of_getElem? (i := 716) (by decide +kernel), by decide +kernel⟩
theorem tw_663 : (Jvm.Cond.fieldLink "CharMachineModel" (36 : Nat) "CharMachineModel" "copy" "[B") ∈ BIG := List.mem_filter.mpr ⟨List.mem_of_getElem? (i := 717) (by decide +kernel), by decide +kernel⟩
theorem tw_664 : (Jvm.Cond.lays "CharMachineModel" "CharMachineModel" "thrown" "I") ∈ BIG := List.mem_filter.mpr ⟨List.mem_of_getElem? (i := 718) (by decide +kernel), by decide +kernel⟩
theorem tw_666 : (Jvm.Cond.laysFinal "CharMachineModel" "CharMachineModel" "size" "I") ∈ BIG := List.mem_filter.mpr ⟨List.mem_of_getElem? (i := 720) (by decide +kernel), by decide +kernel⟩
theorem tw_668 : (Jvm.Cond.laysFinal "CharMachineModel" "CharMachineModel" "store" "[B") ∈ BIG := List.mem_filter.mpr ⟨List.mem_of_getElem? (i := 722) (by decide +kernel), by decide +kernel⟩
theorem tw_670 : (Jvm.Cond.laysFinal "CharMachineModel" "CharMachineModel" "mark" "[Z") ∈ BIG := List.mem_filter.mpr ⟨List.mem_of_getElem? (i := 724) (by decide +kernel), by decide +kernel⟩
theorem tw_672 : (Jvm.Cond.lays "CharMachineModel" "CharMachineModel" "at" "I") ∈ BIG := List.mem_filter.mpr ⟨List.mem_of_getElem? (i := 726) (by decide +kernel), by decide +kernel⟩
theorem tw_674 : (Jvm.Cond.lays "CharMachineModel" "CharMachineModel" "a" "I") ∈ BIG := List.mem_filter.mpr ⟨List.mem_of_getElem? (i := 728) (by decide +kernel), by decide +kernel⟩
theorem tw_676 : (Jvm.Cond.lays "CharMachineModel" "CharMachineModel" "b" "I") ∈ BIG := List.mem_filter.mpr ⟨List.mem_of_getElem? (i := 730) (by decide +kernel), by decide +kernel⟩
theorem tw_678 : (Jvm.Cond.lays "CharMachineModel" "CharMachineModel" "compared" "I") ∈ BIG := List.mem_filter.mpr ⟨List.mem_of_getElem? (i := 732) (by decide +kernel), by decide +kernel⟩
theorem tw_680 : (Jvm.Cond.lays "CharMachineModel" "CharMachineModel" "overflow" "Z") ∈ BIG := List.mem_filter.mpr ⟨List.mem_of_getElem? (i := 734) (by decide +kernel), by decide +kernel⟩
theorem tw_682 : (Jvm.Cond.lays "CharMachineModel" "CharMachineModel" "last" "Z") ∈ BIG := List.mem_filter.mpr ⟨List.mem_of_getElem? (i := 736) (by decide +kernel), by decide +kernel⟩
theorem tw_684 : (Jvm.Cond.lays "CharMachineModel" "CharMachineModel" "steps" "I") ∈ BIG := List.mem_filter.mpr ⟨List.mem_of_getElem? (i := 738) (by decide +kernel), by decide +kernel⟩
theorem tw_686 : (Jvm.Cond.lays "CharMachineModel" "CharMachineModel" "answer" "I") ∈ BIG := List.mem_filter.mpr ⟨List.mem_of_getElem? (i := 740) (by decide +kernel), by decide +kernel⟩
theorem tw_688 : (Jvm.Cond.lays "CharMachineModel" "CharMachineModel" "op" "I") ∈ BIG := List.mem_filter.mpr ⟨List.mem_of_getElem? (i := 742) (by decide +kernel), by decide +kernel⟩
theorem tw_690 : (Jvm.Cond.lays "CharMachineModel" "CharMachineModel" "length" "I") ∈ BIG := List.mem_filter.mpr ⟨List.mem_of_getElem? (i := 744) (by decide +kernel), by decide +kernel⟩
theorem tw_692 : (Jvm.Cond.lays "CharMachineModel" "CharMachineModel" "from" "I") ∈ BIG := List.mem_filter.mpr ⟨List.mem_of_getElem? (i := 746) (by decide +kernel), by decide +kernel⟩
theorem tw_694 : (Jvm.Cond.lays "CharMachineModel" "CharMachineModel" "hadA" "I") ∈ BIG := List.mem_filter.mpr ⟨List.mem_of_getElem? (i := 748) (by decide +kernel), by decide +kernel⟩
theorem tw_696 : (Jvm.Cond.lays "CharMachineModel" "CharMachineModel" "hadB" "I") ∈ BIG := List.mem_filter.mpr ⟨List.mem_of_getElem? (i := 750) (by decide +kernel), by decide +kernel⟩
theorem tw_698 : (Jvm.Cond.laysFinal "CharMachineModel" "CharMachineModel" "making" "[B") ∈ BIG := List.mem_filter.mpr ⟨List.mem_of_getElem? (i := 752) (by decide +kernel), by decide +kernel⟩
theorem tw_700 : (Jvm.Cond.lays "CharMachineModel" "CharMachineModel" "cards" "I") ∈ BIG := List.mem_filter.mpr ⟨List.mem_of_getElem? (i := 754) (by decide +kernel), by decide +kernel⟩
theorem tw_702 : (Jvm.Cond.lays "CharMachineModel" "CharMachineModel" "read" "I") ∈ BIG := List.mem_filter.mpr ⟨List.mem_of_getElem? (i := 756) (by decide +kernel), by decide +kernel⟩
theorem tw_704 : (Jvm.Cond.laysFinal "CharMachineModel" "CharMachineModel" "card" "[B") ∈ BIG := List.mem_filter.mpr ⟨List.mem_of_getElem? (i := 758) (by decide +kernel), by decide +kernel⟩
theorem tw_706 : (Jvm.Cond.lays "CharMachineModel" "CharMachineModel" "lines" "I") ∈ BIG := List.mem_filter.mpr ⟨List.mem_of_getElem? (i := 760) (by decide +kernel), by decide +kernel⟩
theorem tw_708 : (Jvm.Cond.laysFinal "CharMachineModel" "CharMachineModel" "line" "[B") ∈ BIG := List.mem_filter.mpr ⟨List.mem_of_getElem? (i := 762) (by decide +kernel), by decide +kernel⟩
theorem tw_710 : (Jvm.Cond.lays "CharMachineModel" "CharMachineModel" "punched" "I") ∈ BIG := List.mem_filter.mpr ⟨List.mem_of_getElem? (i := 764) (by decide +kernel), by decide +kernel⟩
theorem tw_712 : (Jvm.Cond.laysFinal "CharMachineModel" "CharMachineModel" "punch" "[B") ∈ BIG := List.mem_filter.mpr ⟨List.mem_of_getElem? (i := 766) (by decide +kernel), by decide +kernel⟩
theorem tw_714 : (Jvm.Cond.laysFinal "CharMachineModel" "CharMachineModel" "one" "[I") ∈ BIG := List.mem_filter.mpr ⟨List.mem_of_getElem? (i := 768) (by decide +kernel), by decide +kernel⟩
theorem tw_716 : (Jvm.Cond.laysFinal "CharMachineModel" "CharMachineModel" "two" "[I") ∈ BIG := List.mem_filter.mpr ⟨List.mem_of_getElem? (i := 770) (by decide +kernel), by decide +kernel⟩
theorem tw_718 : (Jvm.Cond.laysFinal "CharMachineModel" "CharMachineModel" "copy" "[B") ∈ BIG := List.mem_filter.mpr ⟨List.mem_of_getElem? (i := 772) (by decide +kernel), by decide +kernel⟩
theorem tw_721 : (Jvm.Cond.arrayClass Jvm.ClassFile.FieldType.byte) ∈ BIG := List.mem_filter.mpr ⟨List.mem_of_getElem? (i := 775) (by decide +kernel), by decide +kernel⟩
theorem tw_722 : (Jvm.Cond.arrayClass Jvm.ClassFile.FieldType.boolean) ∈ BIG := List.mem_filter.mpr ⟨List.mem_of_getElem? (i := 776) (by decide +kernel), by decide +kernel⟩
theorem tw_723 : (Jvm.Cond.methodLink "CharMachineLaw" (70 : Nat) ({ cls := "CharMachineModel", name := "thrown", desc := "()I" } : Jvm.MethodName)) ∈ BIG := List.mem_filter.mpr ⟨List.mem_of_getElem? (i := 777) (by decide +kernel), by decide +kernel⟩
theorem tw_724 : (Jvm.Cond.instanceMethod ({ cls := "CharMachineModel", name := "thrown", desc := "()I" } : Jvm.MethodName)) ∈ BIG := List.mem_filter.mpr ⟨List.mem_of_getElem? (i := 778) (by decide +kernel), by decide +kernel⟩
theorem tw_725 : (Jvm.Cond.selects "CharMachineModel" ({ cls := "CharMachineModel", name := "thrown", desc := "()I" } : Jvm.MethodName) ({ cls := "CharMachineModel", name := "thrown", desc := "()I" } : Jvm.MethodName)) ∈ BIG := List.mem_filter.mpr ⟨List.mem_of_getElem? (i := 779) (by decide +kernel), by decide +kernel⟩
set_option maxRecDepth 100000 in
theorem tw_726 : (Jvm.Cond.code ({ cls := "CharMachineModel", name := "thrown", desc := "()I" } : Jvm.MethodName) prog_7_method_2_code (1 : Nat) (Option.some Jvm.ClassFile.FieldType.int)) ∈ BIG := List.mem_filter.mpr ⟨List.mem_of_getElem? (i := 780) rfl, rfl⟩
theorem tw_727 : (Jvm.Cond.methodLink "CharMachineLaw" (63 : Nat) ({ cls := "CharMachineModel", name := "set", desc := "(IIZ)Z" } : Jvm.MethodName)) ∈ BIG := List.mem_filter.mpr ⟨List.mem_of_getElem? (i := 781) (by decide +kernel), by decide +kernel⟩
theorem tw_728 : (Jvm.Cond.instanceMethod ({ cls := "CharMachineModel", name := "set", desc := "(IIZ)Z" } : Jvm.MethodName)) ∈ BIG := List.mem_filter.mpr ⟨List.mem_of_getElem? (i := 782) (by decide +kernel), by decide +kernel⟩
theorem tw_729 : (Jvm.Cond.selects "CharMachineModel" ({ cls := "CharMachineModel", name := "set", desc := "(IIZ)Z" } : Jvm.MethodName) ({ cls := "CharMachineModel", name := "set", desc := "(IIZ)Z" } : Jvm.MethodName)) ∈ BIG := List.mem_filter.mpr ⟨List.mem_of_getElem? (i := 783) (by decide +kernel), by decide +kernel⟩
set_option maxRecDepth 100000 in
theorem tw_730 : (Jvm.Cond.code ({ cls := "CharMachineModel", name := "set", desc := "(IIZ)Z" } : Jvm.MethodName) prog_7_method_8_code (4 : Nat) (Option.some Jvm.ClassFile.FieldType.boolean)) ∈ BIG := List.mem_filter.mpr ⟨List.mem_of_getElem? (i := 784) rfl, rfl⟩
theorem tw_731 : (Jvm.Cond.methodLink "CharMachineModel" (46 : Nat) ({ cls := "CharMachineModel", name := "is", desc := "(I)Z" } : Jvm.MethodName)) ∈ BIG := List.mem_filter.mpr ⟨List.mem_of_getElem? (i := 785) (by decide +kernel), by decide +kernel⟩
theorem tw_733 : (Jvm.Cond.instanceMethod ({ cls := "CharMachineModel", name := "is", desc := "(I)Z" } : Jvm.MethodName)) ∈ BIG := List.mem_filter.mpr ⟨List.mem_of_getElem? (i := 787) (by decide +kernel), by decide +kernel⟩
set_option maxRecDepth 100000 in
theorem tw_734 : (Jvm.Cond.code ({ cls := "CharMachineModel", name := "is", desc := "(I)Z" } : Jvm.MethodName) prog_7_method_3_code (2 : Nat) (Option.some Jvm.ClassFile.FieldType.boolean)) ∈ BIG := List.mem_filter.mpr ⟨List.mem_of_getElem? (i := 788) rfl, rfl⟩
theorem tw_735 : (Jvm.Cond.methodLink "CharMachineModel" (50 : Nat) ({ cls := "CharMachineModel", name := "isCharacter", desc := "(I)Z" } : Jvm.MethodName)) ∈ BIG := List.mem_filter.mpr ⟨List.mem_of_getElem? (i := 789) (by decide +kernel), by decide +kernel⟩
theorem tw_736 : (Jvm.Cond.static ({ cls := "CharMachineModel", name := "isCharacter", desc := "(I)Z" } : Jvm.MethodName)) ∈ BIG := List.mem_filter.mpr ⟨List.mem_of_getElem? (i := 790) (by decide +kernel), by decide +kernel⟩
set_option maxRecDepth 100000 in
theorem tw_737 : (Jvm.Cond.code ({ cls := "CharMachineModel", name := "isCharacter", desc := "(I)Z" } : Jvm.MethodName) prog_7_method_4_code (1 : Nat) (Option.some Jvm.ClassFile.FieldType.boolean)) ∈ BIG := List.mem_filter.mpr ⟨List.mem_of_getElem? (i := 791) rfl, rfl⟩
theorem tw_738 : (Jvm.Cond.methodLink "CharMachineLaw" (69 : Nat) ({ cls := "CharMachineModel", name := "put", desc := "(IJI)I" } : Jvm.MethodName)) ∈ BIG := List.mem_filter.mpr ⟨List.mem_of_getElem? (i := 792) (by decide +kernel), by decide +kernel⟩
theorem tw_739 : (Jvm.Cond.instanceMethod ({ cls := "CharMachineModel", name := "put", desc := "(IJI)I" } : Jvm.MethodName)) ∈ BIG := List.mem_filter.mpr ⟨List.mem_of_getElem? (i := 793) (by decide +kernel), by decide +kernel⟩
theorem tw_740 : (Jvm.Cond.selects "CharMachineModel" ({ cls := "CharMachineModel", name := "put", desc := "(IJI)I" } : Jvm.MethodName) ({ cls := "CharMachineModel", name := "put", desc := "(IJI)I" } : Jvm.MethodName)) ∈ BIG := List.mem_filter.mpr ⟨List.mem_of_getElem? (i := 794) (by decide +kernel), by decide +kernel⟩
set_option maxRecDepth 100000 in
theorem tw_741 : (Jvm.Cond.code ({ cls := "CharMachineModel", name := "put", desc := "(IJI)I" } : Jvm.MethodName) prog_7_method_9_code (7 : Nat) (Option.some Jvm.ClassFile.FieldType.int)) ∈ BIG := List.mem_filter.mpr ⟨List.mem_of_getElem? (i := 795) rfl, rfl⟩
theorem tw_742 : (Jvm.Cond.constantLong "CharMachineModel" (53 : Nat) (255 : Int64)) ∈ BIG := List.mem_filter.mpr ⟨List.mem_of_getElem? (i := 796) (by decide +kernel), by decide +kernel⟩
theorem tw_743 : (Jvm.Cond.constantLong "CharMachineModel" (55 : Nat) (64 : Int64)) ∈ BIG := List.mem_filter.mpr ⟨List.mem_of_getElem? (i := 797) (by decide +kernel), by decide +kernel⟩
theorem tw_744 : (Jvm.Cond.constantLong "CharMachineModel" (57 : Nat) (63 : Int64)) ∈ BIG := List.mem_filter.mpr ⟨List.mem_of_getElem? (i := 798) (by decide +kernel), by decide +kernel⟩
theorem tw_745 : (Jvm.Cond.methodLink "CharMachineLaw" (77 : Nat) ({ cls := "CharMachineModel", name := "column", desc := "(II)Z" } : Jvm.MethodName)) ∈ BIG := List.mem_filter.mpr ⟨List.mem_of_getElem? (i := 799) (by decide +kernel), by decide +kernel⟩
theorem tw_746 : (Jvm.Cond.instanceMethod ({ cls := "CharMachineModel", name := "column", desc := "(II)Z" } : Jvm.MethodName)) ∈ BIG := List.mem_filter.mpr ⟨List.mem_of_getElem? (i := 800) (by decide +kernel), by decide +kernel⟩
theorem tw_747 : (Jvm.Cond.selects "CharMachineModel" ({ cls := "CharMachineModel", name := "column", desc := "(II)Z" } : Jvm.MethodName) ({ cls := "CharMachineModel", name := "column", desc := "(II)Z" } : Jvm.MethodName)) ∈ BIG := List.mem_filter.mpr ⟨List.mem_of_getElem? (i := 801) (by decide +kernel), by decide +kernel⟩
set_option maxRecDepth 100000 in
theorem tw_748 : (Jvm.Cond.code ({ cls := "CharMachineModel", name := "column", desc := "(II)Z" } : Jvm.MethodName) prog_7_method_10_code (3 : Nat) (Option.some Jvm.ClassFile.FieldType.boolean)) ∈ BIG := List.mem_filter.mpr ⟨List.mem_of_getElem? (i := 802) rfl, rfl⟩
theorem tw_749 : (Jvm.Cond.methodLink "CharMachineLaw" (81 : Nat) ({ cls := "CharMachineModel", name := "card", desc := "()I" } : Jvm.MethodName)) ∈ BIG := List.mem_filter.mpr ⟨List.mem_of_getElem? (i := 803) (by decide +kernel), by decide +kernel⟩
theorem tw_750 : (Jvm.Cond.instanceMethod ({ cls := "CharMachineModel", name := "card", desc := "()I" } : Jvm.MethodName)) ∈ BIG := List.mem_filter.mpr ⟨List.mem_of_getElem? (i := 804) (by decide +kernel), by decide +kernel⟩
theorem tw_751 : (Jvm.Cond.selects "CharMachineModel" ({ cls := "CharMachineModel", name := "card", desc := "()I" } : Jvm.MethodName) ({ cls := "CharMachineModel", name := "card", desc := "()I" } : Jvm.MethodName)) ∈ BIG := List.mem_filter.mpr ⟨List.mem_of_getElem? (i := 805) (by decide +kernel), by decide +kernel⟩
set_option maxRecDepth 100000 in
theorem tw_752 : (Jvm.Cond.code ({ cls := "CharMachineModel", name := "card", desc := "()I" } : Jvm.MethodName) prog_7_method_11_code (2 : Nat) (Option.some Jvm.ClassFile.FieldType.int)) ∈ BIG := List.mem_filter.mpr ⟨List.mem_of_getElem? (i := 806) rfl, rfl⟩
theorem tw_753 : (Jvm.Cond.methodLink "CharMachineLaw" (85 : Nat) ({ cls := "CharMachineModel", name := "start", desc := "(I)Z" } : Jvm.MethodName)) ∈ BIG := List.mem_filter.mpr ⟨List.mem_of_getElem? (i := 807) (by decide +kernel), by decide +kernel⟩
theorem tw_754 : (Jvm.Cond.instanceMethod ({ cls := "CharMachineModel", name := "start", desc := "(I)Z" } : Jvm.MethodName)) ∈ BIG := List.mem_filter.mpr ⟨List.mem_of_getElem? (i := 808) (by decide +kernel), by decide +kernel⟩
theorem tw_755 : (Jvm.Cond.selects "CharMachineModel" ({ cls := "CharMachineModel", name := "start", desc := "(I)Z" } : Jvm.MethodName) ({ cls := "CharMachineModel", name := "start", desc := "(I)Z" } : Jvm.MethodName)) ∈ BIG := List.mem_filter.mpr ⟨List.mem_of_getElem? (i := 809) (by decide +kernel), by decide +kernel⟩
set_option maxRecDepth 100000 in
theorem tw_756 : (Jvm.Cond.code ({ cls := "CharMachineModel", name := "start", desc := "(I)Z" } : Jvm.MethodName) prog_7_method_12_code (2 : Nat) (Option.some Jvm.ClassFile.FieldType.boolean)) ∈ BIG := List.mem_filter.mpr ⟨List.mem_of_getElem? (i := 810) rfl, rfl⟩
theorem tw_757 : (Jvm.Cond.methodLink "CharMachineLaw" (89 : Nat) ({ cls := "CharMachineModel", name := "run", desc := "(I)I" } : Jvm.MethodName)) ∈ BIG := List.mem_filter.mpr ⟨List.mem_of_getElem? (i := 811) (by decide +kernel), by decide +kernel⟩
theorem tw_758 : (Jvm.Cond.instanceMethod ({ cls := "CharMachineModel", name := "run", desc := "(I)I" } : Jvm.MethodName)) ∈ BIG := List.mem_filter.mpr ⟨List.mem_of_getElem? (i := 812) (by decide +kernel), by decide +kernel⟩
theorem tw_759 : (Jvm.Cond.selects "CharMachineModel" ({ cls := "CharMachineModel", name := "run", desc := "(I)I" } : Jvm.MethodName) ({ cls := "CharMachineModel", name := "run", desc := "(I)I" } : Jvm.MethodName)) ∈ BIG := List.mem_filter.mpr ⟨List.mem_of_getElem? (i := 813) (by decide +kernel), by decide +kernel⟩
set_option maxRecDepth 100000 in
theorem tw_760 : (Jvm.Cond.code ({ cls := "CharMachineModel", name := "run", desc := "(I)I" } : Jvm.MethodName) prog_7_method_44_code (3 : Nat) (Option.some Jvm.ClassFile.FieldType.int)) ∈ BIG := List.mem_filter.mpr ⟨List.mem_of_getElem? (i := 814) rfl, rfl⟩
theorem tw_761 : (Jvm.Cond.methodLink "CharMachineModel" (213 : Nat) ({ cls := "CharMachineModel", name := "fetch", desc := "()I" } : Jvm.MethodName)) ∈ BIG := List.mem_filter.mpr ⟨List.mem_of_getElem? (i := 815) (by decide +kernel), by decide +kernel⟩
theorem tw_763 : (Jvm.Cond.instanceMethod ({ cls := "CharMachineModel", name := "fetch", desc := "()I" } : Jvm.MethodName)) ∈ BIG := List.mem_filter.mpr ⟨List.mem_of_getElem? (i := 817) (by decide +kernel), by decide +kernel⟩
set_option maxRecDepth 100000 in
theorem tw_764 : (Jvm.Cond.code ({ cls := "CharMachineModel", name := "fetch", desc := "()I" } : Jvm.MethodName) prog_7_method_41_code (3 : Nat) (Option.some Jvm.ClassFile.FieldType.int)) ∈ BIG := List.mem_filter.mpr ⟨List.mem_of_getElem? (i := 818) rfl, rfl⟩
theorem tw_765 : (Jvm.Cond.methodLink "CharMachineModel" (158 : Nat) ({ cls := "CharMachineModel", name := "may", desc := "(II)Z" } : Jvm.MethodName)) ∈ BIG := List.mem_filter.mpr ⟨List.mem_of_getElem? (i := 819) (by decide +kernel), by decide +kernel⟩
theorem tw_766 : (Jvm.Cond.static ({ cls := "CharMachineModel", name := "may", desc := "(II)Z" } : Jvm.MethodName)) ∈ BIG := List.mem_filter.mpr ⟨List.mem_of_getElem? (i := 820) (by decide +kernel), by decide +kernel⟩
set_option maxRecDepth 100000 in
theorem tw_767 : (Jvm.Cond.code ({ cls := "CharMachineModel", name := "may", desc := "(II)Z" } : Jvm.MethodName) prog_7_method_40_code (3 : Nat) (Option.some Jvm.ClassFile.FieldType.boolean)) ∈ BIG := List.mem_filter.mpr ⟨List.mem_of_getElem? (i := 821) rfl, rfl⟩
theorem tw_768 : (Jvm.Cond.methodLink "CharMachineModel" (155 : Nat) ({ cls := "CharMachineModel", name := "isArithmetic", desc := "(I)Z" } : Jvm.MethodName)) ∈ BIG := List.mem_filter.mpr ⟨List.mem_of_getElem? (i := 822) (by decide +kernel), by decide +kernel⟩
theorem tw_769 : (Jvm.Cond.static ({ cls := "CharMachineModel", name := "isArithmetic", desc := "(I)Z" } : Jvm.MethodName)) ∈ BIG := List.mem_filter.mpr ⟨List.mem_of_getElem? (i := 823) (by decide +kernel), by decide +kernel⟩
set_option maxRecDepth 100000 in
theorem tw_770 : (Jvm.Cond.code ({ cls := "CharMachineModel", name := "isArithmetic", desc := "(I)Z" } : Jvm.MethodName) prog_7_method_39_code (1 : Nat) (Option.some Jvm.ClassFile.FieldType.boolean)) ∈ BIG := List.mem_filter.mpr ⟨List.mem_of_getElem? (i := 824) rfl, rfl⟩
theorem tw_771 : (Jvm.Cond.methodLink "CharMachineModel" (162 : Nat) ({ cls := "CharMachineModel", name := "address", desc := "(I)I" } : Jvm.MethodName)) ∈ BIG := List.mem_filter.mpr ⟨List.mem_of_getElem? (i := 825) (by decide +kernel), by decide +kernel⟩
theorem tw_773 : (Jvm.Cond.instanceMethod ({ cls := "CharMachineModel", name := "address", desc := "(I)I" } : Jvm.MethodName)) ∈ BIG := List.mem_filter.mpr ⟨List.mem_of_getElem? (i := 827) (by decide +kernel), by decide +kernel⟩
set_option maxRecDepth 100000 in
theorem tw_774 : (Jvm.Cond.code ({ cls := "CharMachineModel", name := "address", desc := "(I)I" } : Jvm.MethodName) prog_7_method_38_code (5 : Nat) (Option.some Jvm.ClassFile.FieldType.int)) ∈ BIG := List.mem_filter.mpr ⟨List.mem_of_getElem? (i := 828) rfl, rfl⟩
theorem tw_775 : (Jvm.Cond.methodLink "CharMachineModel" (72 : Nat) ({ cls := "CharMachineModel", name := "value", desc := "(I)I" } : Jvm.MethodName)) ∈ BIG := List.mem_filter.mpr ⟨List.mem_of_getElem? (i := 829) (by decide +kernel), by decide +kernel⟩
theorem tw_776 : (Jvm.Cond.static ({ cls := "CharMachineModel", name := "value", desc := "(I)I" } : Jvm.MethodName)) ∈ BIG := List.mem_filter.mpr ⟨List.mem_of_getElem? (i := 830) (by decide +kernel), by decide +kernel⟩
set_option maxRecDepth 100000 in
theorem tw_777 : (Jvm.Cond.code ({ cls := "CharMachineModel", name := "value", desc := "(I)I" } : Jvm.MethodName) prog_7_method_6_code (1 : Nat) (Option.some Jvm.ClassFile.FieldType.int)) ∈ BIG := List.mem_filter.mpr ⟨List.mem_of_getElem? (i := 831) rfl, rfl⟩
theorem tw_778 : (Jvm.Cond.methodLink "CharMachineModel" (216 : Nat) ({ cls := "CharMachineModel", name := "execute", desc := "()I" } : Jvm.MethodName)) ∈ BIG := List.mem_filter.mpr ⟨List.mem_of_getElem? (i := 832) (by decide +kernel), by decide +kernel⟩
theorem tw_780 : (Jvm.Cond.instanceMethod ({ cls := "CharMachineModel", name := "execute", desc := "()I" } : Jvm.MethodName)) ∈ BIG := List.mem_filter.mpr ⟨List.mem_of_getElem? (i := 834) (by decide +kernel), by decide +kernel⟩
set_option maxRecDepth 100000 in
theorem tw_781 : (Jvm.Cond.code ({ cls := "CharMachineModel", name := "execute", desc := "()I" } : Jvm.MethodName) prog_7_method_43_code (1 : Nat) (Option.some Jvm.ClassFile.FieldType.int)) ∈ BIG := List.mem_filter.mpr ⟨List.mem_of_getElem? (i := 835) rfl, rfl⟩
theorem tw_782 : (Jvm.Cond.methodLink "CharMachineModel" (165 : Nat) ({ cls := "CharMachineModel", name := "add", desc := "()I" } : Jvm.MethodName)) ∈ BIG := List.mem_filter.mpr ⟨List.mem_of_getElem? (i := 836) (by decide +kernel), by decide +kernel⟩
theorem tw_784 : (Jvm.Cond.instanceMethod ({ cls := "CharMachineModel", name := "add", desc := "()I" } : Jvm.MethodName)) ∈ BIG := List.mem_filter.mpr ⟨List.mem_of_getElem? (i := 838) (by decide +kernel), by decide +kernel⟩
set_option maxRecDepth 100000 in
theorem tw_785 : (Jvm.Cond.code ({ cls := "CharMachineModel", name := "add", desc := "()I" } : Jvm.MethodName) prog_7_method_18_code (10 : Nat) (Option.some Jvm.ClassFile.FieldType.int)) ∈ BIG := List.mem_filter.mpr ⟨List.mem_of_getElem? (i := 839) rfl, rfl⟩
theorem tw_786 : (Jvm.Cond.methodLink "CharMachineModel" (81 : Nat) ({ cls := "CharMachineModel", name := "field", desc := "(II)I" } : Jvm.MethodName)) ∈ BIG := List.mem_filter.mpr ⟨List.mem_of_getElem? (i := 840) (by decide +kernel), by decide +kernel⟩
theorem tw_788 : (Jvm.Cond.instanceMethod ({ cls := "CharMachineModel", name := "field", desc := "(II)I" } : Jvm.MethodName)) ∈ BIG := List.mem_filter.mpr ⟨List.mem_of_getElem? (i := 842) (by decide +kernel), by decide +kernel⟩
set_option maxRecDepth 100000 in
theorem tw_789 : (Jvm.Cond.code ({ cls := "CharMachineModel", name := "field", desc := "(II)I" } : Jvm.MethodName) prog_7_method_13_code (5 : Nat) (Option.some Jvm.ClassFile.FieldType.int)) ∈ BIG := List.mem_filter.mpr ⟨List.mem_of_getElem? (i := 843) rfl, rfl⟩
theorem tw_790 : (Jvm.Cond.methodLink "CharMachineModel" (88 : Nat) ({ cls := "CharMachineModel", name := "isMinus", desc := "(I)Z" } : Jvm.MethodName)) ∈ BIG := List.mem_filter.mpr ⟨List.mem_of_getElem? (i := 844) (by decide +kernel), by decide +kernel⟩
theorem tw_791 : (Jvm.Cond.static ({ cls := "CharMachineModel", name := "isMinus", desc := "(I)Z" } : Jvm.MethodName)) ∈ BIG := List.mem_filter.mpr ⟨List.mem_of_getElem? (i := 845) (by decide +kernel), by decide +kernel⟩
set_option maxRecDepth 100000 in
theorem tw_792 : (Jvm.Cond.code ({ cls := "CharMachineModel", name := "isMinus", desc := "(I)Z" } : Jvm.MethodName) prog_7_method_14_code (1 : Nat) (Option.some Jvm.ClassFile.FieldType.boolean)) ∈ BIG := List.mem_filter.mpr ⟨List.mem_of_getElem? (i := 846) rfl, rfl⟩
theorem tw_793 : (Jvm.Cond.methodLink "CharMachineModel" (68 : Nat) ({ cls := "CharMachineModel", name := "zone", desc := "(I)I" } : Jvm.MethodName)) ∈ BIG := List.mem_filter.mpr ⟨List.mem_of_getElem? (i := 847) (by decide +kernel), by decide +kernel⟩
theorem tw_794 : (Jvm.Cond.static ({ cls := "CharMachineModel", name := "zone", desc := "(I)I" } : Jvm.MethodName)) ∈ BIG := List.mem_filter.mpr ⟨List.mem_of_getElem? (i := 848) (by decide +kernel), by decide +kernel⟩
set_option maxRecDepth 100000 in
theorem tw_795 : (Jvm.Cond.code ({ cls := "CharMachineModel", name := "zone", desc := "(I)I" } : Jvm.MethodName) prog_7_method_5_code (1 : Nat) (Option.some Jvm.ClassFile.FieldType.int)) ∈ BIG := List.mem_filter.mpr ⟨List.mem_of_getElem? (i := 849) rfl, rfl⟩
theorem tw_796 : (Jvm.Cond.methodLink "CharMachineModel" (94 : Nat) ({ cls := "CharMachineModel", name := "readDigits", desc := "([IIII)V" } : Jvm.MethodName)) ∈ BIG := List.mem_filter.mpr ⟨List.mem_of_getElem? (i := 850) (by decide +kernel), by decide +kernel⟩
theorem tw_798 : (Jvm.Cond.instanceMethod ({ cls := "CharMachineModel", name := "readDigits", desc := "([IIII)V" } : Jvm.MethodName)) ∈ BIG := List.mem_filter.mpr ⟨List.mem_of_getElem? (i := 852) (by decide +kernel), by decide +kernel⟩
set_option maxRecDepth 100000 in
theorem tw_799 : (Jvm.Cond.code ({ cls := "CharMachineModel", name := "readDigits", desc := "([IIII)V" } : Jvm.MethodName) prog_7_method_15_code (6 : Nat) (Option.none : Option Jvm.ClassFile.FieldType)) ∈ BIG := List.mem_filter.mpr ⟨List.mem_of_getElem? (i := 853) rfl, rfl⟩
theorem tw_800 : (Jvm.Cond.methodLink "CharMachineModel" (102 : Nat) ({ cls := "CharMachineModel", name := "writeDigits", desc := "(II)V" } : Jvm.MethodName)) ∈ BIG := List.mem_filter.mpr ⟨List.mem_of_getElem? (i := 854) (by decide +kernel), by decide +kernel⟩
theorem tw_802 : (Jvm.Cond.instanceMethod ({ cls := "CharMachineModel", name := "writeDigits", desc := "(II)V" } : Jvm.MethodName)) ∈ BIG := List.mem_filter.mpr ⟨List.mem_of_getElem? (i := 856) (by decide +kernel), by decide +kernel⟩
set_option maxRecDepth 100000 in
theorem tw_803 : (Jvm.Cond.code ({ cls := "CharMachineModel", name := "writeDigits", desc := "(II)V" } : Jvm.MethodName) prog_7_method_16_code (4 : Nat) (Option.none : Option Jvm.ClassFile.FieldType)) ∈ BIG := List.mem_filter.mpr ⟨List.mem_of_getElem? (i := 857) rfl, rfl⟩
theorem tw_804 : (Jvm.Cond.methodLink "CharMachineModel" (78 : Nat) ({ cls := "CharMachineModel", name := "digit", desc := "(I)I" } : Jvm.MethodName)) ∈ BIG := List.mem_filter.mpr ⟨List.mem_of_getElem? (i := 858) (by decide +kernel), by decide +kernel⟩
theorem tw_805 : (Jvm.Cond.static ({ cls := "CharMachineModel", name := "digit", desc := "(I)I" } : Jvm.MethodName)) ∈ BIG := List.mem_filter.mpr ⟨List.mem_of_getElem? (i := 859) (by decide +kernel), by decide +kernel⟩
set_option maxRecDepth 100000 in
theorem tw_806 : (Jvm.Cond.code ({ cls := "CharMachineModel", name := "digit", desc := "(I)I" } : Jvm.MethodName) prog_7_method_7_code (1 : Nat) (Option.some Jvm.ClassFile.FieldType.int)) ∈ BIG := List.mem_filter.mpr ⟨List.mem_of_getElem? (i := 860) rfl, rfl⟩
theorem tw_807 : (Jvm.Cond.methodLink "CharMachineModel" (106 : Nat) ({ cls := "CharMachineModel", name := "isMore", desc := "(I)Z" } : Jvm.MethodName)) ∈ BIG := List.mem_filter.mpr ⟨List.mem_of_getElem? (i := 861) (by decide +kernel), by decide +kernel⟩
theorem tw_809 : (Jvm.Cond.instanceMethod ({ cls := "CharMachineModel", name := "isMore", desc := "(I)Z" } : Jvm.MethodName)) ∈ BIG := List.mem_filter.mpr ⟨List.mem_of_getElem? (i := 863) (by decide +kernel), by decide +kernel⟩
set_option maxRecDepth 100000 in
theorem tw_810 : (Jvm.Cond.code ({ cls := "CharMachineModel", name := "isMore", desc := "(I)Z" } : Jvm.MethodName) prog_7_method_17_code (4 : Nat) (Option.some Jvm.ClassFile.FieldType.boolean)) ∈ BIG := List.mem_filter.mpr ⟨List.mem_of_getElem? (i := 864) rfl, rfl⟩
theorem tw_811 : (Jvm.Cond.methodLink "CharMachineModel" (168 : Nat) ({ cls := "CharMachineModel", name := "reset", desc := "()I" } : Jvm.MethodName)) ∈ BIG := List.mem_filter.mpr ⟨List.mem_of_getElem? (i := 865) (by decide +kernel), by decide +kernel⟩
theorem tw_813 : (Jvm.Cond.instanceMethod ({ cls := "CharMachineModel", name := "reset", desc := "()I" } : Jvm.MethodName)) ∈ BIG := List.mem_filter.mpr ⟨List.mem_of_getElem? (i := 867) (by decide +kernel), by decide +kernel⟩
set_option maxRecDepth 100000 in
theorem tw_814 : (Jvm.Cond.code ({ cls := "CharMachineModel", name := "reset", desc := "()I" } : Jvm.MethodName) prog_7_method_19_code (4 : Nat) (Option.some Jvm.ClassFile.FieldType.int)) ∈ BIG := List.mem_filter.mpr ⟨List.mem_of_getElem? (i := 868) rfl, rfl⟩
theorem tw_815 : (Jvm.Cond.methodLink "CharMachineModel" (171 : Nat) ({ cls := "CharMachineModel", name := "move", desc := "()I" } : Jvm.MethodName)) ∈ BIG := List.mem_filter.mpr ⟨List.mem_of_getElem? (i := 869) (by decide +kernel), by decide +kernel⟩
theorem tw_817 : (Jvm.Cond.instanceMethod ({ cls := "CharMachineModel", name := "move", desc := "()I" } : Jvm.MethodName)) ∈ BIG := List.mem_filter.mpr ⟨List.mem_of_getElem? (i := 871) (by decide +kernel), by decide +kernel⟩
set_option maxRecDepth 100000 in
theorem tw_818 : (Jvm.Cond.code ({ cls := "CharMachineModel", name := "move", desc := "()I" } : Jvm.MethodName) prog_7_method_21_code (3 : Nat) (Option.some Jvm.ClassFile.FieldType.int)) ∈ BIG := List.mem_filter.mpr ⟨List.mem_of_getElem? (i := 872) rfl, rfl⟩
theorem tw_819 : (Jvm.Cond.methodLink "CharMachineModel" (109 : Nat) ({ cls := "CharMachineModel", name := "both", desc := "()I" } : Jvm.MethodName)) ∈ BIG := List.mem_filter.mpr ⟨List.mem_of_getElem? (i := 873) (by decide +kernel), by decide +kernel⟩
theorem tw_821 : (Jvm.Cond.instanceMethod ({ cls := "CharMachineModel", name := "both", desc := "()I" } : Jvm.MethodName)) ∈ BIG := List.mem_filter.mpr ⟨List.mem_of_getElem? (i := 875) (by decide +kernel), by decide +kernel⟩
set_option maxRecDepth 100000 in
theorem tw_822 : (Jvm.Cond.code ({ cls := "CharMachineModel", name := "both", desc := "()I" } : Jvm.MethodName) prog_7_method_20_code (3 : Nat) (Option.some Jvm.ClassFile.FieldType.int)) ∈ BIG := List.mem_filter.mpr ⟨List.mem_of_getElem? (i := 876) rfl, rfl⟩
theorem tw_823 : (Jvm.Cond.methodLink "CharMachineModel" (174 : Nat) ({ cls := "CharMachineModel", name := "load", desc := "()I" } : Jvm.MethodName)) ∈ BIG := List.mem_filter.mpr ⟨List.mem_of_getElem? (i := 877) (by decide +kernel), by decide +kernel⟩
theorem tw_825 : (Jvm.Cond.instanceMethod ({ cls := "CharMachineModel", name := "load", desc := "()I" } : Jvm.MethodName)) ∈ BIG := List.mem_filter.mpr ⟨List.mem_of_getElem? (i := 879) (by decide +kernel), by decide +kernel⟩
set_option maxRecDepth 100000 in
theorem tw_826 : (Jvm.Cond.code ({ cls := "CharMachineModel", name := "load", desc := "()I" } : Jvm.MethodName) prog_7_method_22_code (3 : Nat) (Option.some Jvm.ClassFile.FieldType.int)) ∈ BIG := List.mem_filter.mpr ⟨List.mem_of_getElem? (i := 880) rfl, rfl⟩
theorem tw_827 : (Jvm.Cond.methodLink "CharMachineModel" (177 : Nat) ({ cls := "CharMachineModel", name := "part", desc := "()I" } : Jvm.MethodName)) ∈ BIG := List.mem_filter.mpr ⟨List.mem_of_getElem? (i := 881) (by decide +kernel), by decide +kernel⟩
theorem tw_829 : (Jvm.Cond.instanceMethod ({ cls := "CharMachineModel", name := "part", desc := "()I" } : Jvm.MethodName)) ∈ BIG := List.mem_filter.mpr ⟨List.mem_of_getElem? (i := 883) (by decide +kernel), by decide +kernel⟩
set_option maxRecDepth 100000 in
theorem tw_830 : (Jvm.Cond.code ({ cls := "CharMachineModel", name := "part", desc := "()I" } : Jvm.MethodName) prog_7_method_23_code (2 : Nat) (Option.some Jvm.ClassFile.FieldType.int)) ∈ BIG := List.mem_filter.mpr ⟨List.mem_of_getElem? (i := 884) rfl, rfl⟩
theorem tw_831 : (Jvm.Cond.methodLink "CharMachineModel" (180 : Nat) ({ cls := "CharMachineModel", name := "compare", desc := "()I" } : Jvm.MethodName)) ∈ BIG := List.mem_filter.mpr ⟨List.mem_of_getElem? (i := 885) (by decide +kernel), by decide +kernel⟩
theorem tw_833 : (Jvm.Cond.instanceMethod ({ cls := "CharMachineModel", name := "compare", desc := "()I" } : Jvm.MethodName)) ∈ BIG := List.mem_filter.mpr ⟨List.mem_of_getElem? (i := 887) (by decide +kernel), by decide +kernel⟩
set_option maxRecDepth 100000 in
theorem tw_834 : (Jvm.Cond.code ({ cls := "CharMachineModel", name := "compare", desc := "()I" } : Jvm.MethodName) prog_7_method_25_code (5 : Nat) (Option.some Jvm.ClassFile.FieldType.int)) ∈ BIG := List.mem_filter.mpr ⟨List.mem_of_getElem? (i := 888) rfl, rfl⟩
theorem tw_835 : (Jvm.Cond.methodLink "CharMachineModel" (116 : Nat) ({ cls := "CharMachineModel", name := "rank", desc := "(I)I" } : Jvm.MethodName)) ∈ BIG := List.mem_filter.mpr ⟨List.mem_of_getElem? (i := 889) (by decide +kernel), by decide +kernel⟩
theorem tw_836 : (Jvm.Cond.static ({ cls := "CharMachineModel", name := "rank", desc := "(I)I" } : Jvm.MethodName)) ∈ BIG := List.mem_filter.mpr ⟨List.mem_of_getElem? (i := 890) (by decide +kernel), by decide +kernel⟩
set_option maxRecDepth 100000 in
theorem tw_837 : (Jvm.Cond.code ({ cls := "CharMachineModel", name := "rank", desc := "(I)I" } : Jvm.MethodName) prog_7_method_24_code (4 : Nat) (Option.some Jvm.ClassFile.FieldType.int)) ∈ BIG := List.mem_filter.mpr ⟨List.mem_of_getElem? (i := 891) rfl, rfl⟩
theorem tw_838 : (Jvm.Cond.methodLink "CharMachineModel" (183 : Nat) ({ cls := "CharMachineModel", name := "marks", desc := "()I" } : Jvm.MethodName)) ∈ BIG := List.mem_filter.mpr ⟨List.mem_of_getElem? (i := 892) (by decide +kernel), by decide +kernel⟩
theorem tw_840 : (Jvm.Cond.instanceMethod ({ cls := "CharMachineModel", name := "marks", desc := "()I" } : Jvm.MethodName)) ∈ BIG := List.mem_filter.mpr ⟨List.mem_of_getElem? (i := 894) (by decide +kernel), by decide +kernel⟩
set_option maxRecDepth 100000 in
theorem tw_841 : (Jvm.Cond.code ({ cls := "CharMachineModel", name := "marks", desc := "()I" } : Jvm.MethodName) prog_7_method_26_code (1 : Nat) (Option.some Jvm.ClassFile.FieldType.int)) ∈ BIG := List.mem_filter.mpr ⟨List.mem_of_getElem? (i := 895) rfl, rfl⟩
theorem tw_842 : (Jvm.Cond.methodLink "CharMachineModel" (186 : Nat) ({ cls := "CharMachineModel", name := "clear", desc := "()I" } : Jvm.MethodName)) ∈ BIG := List.mem_filter.mpr ⟨List.mem_of_getElem? (i := 896) (by decide +kernel), by decide +kernel⟩
theorem tw_844 : (Jvm.Cond.instanceMethod ({ cls := "CharMachineModel", name := "clear", desc := "()I" } : Jvm.MethodName)) ∈ BIG := List.mem_filter.mpr ⟨List.mem_of_getElem? (i := 898) (by decide +kernel), by decide +kernel⟩
set_option maxRecDepth 100000 in
theorem tw_845 : (Jvm.Cond.code ({ cls := "CharMachineModel", name := "clear", desc := "()I" } : Jvm.MethodName) prog_7_method_28_code (3 : Nat) (Option.some Jvm.ClassFile.FieldType.int)) ∈ BIG := List.mem_filter.mpr ⟨List.mem_of_getElem? (i := 899) rfl, rfl⟩
theorem tw_846 : (Jvm.Cond.methodLink "CharMachineModel" (122 : Nat) ({ cls := "CharMachineModel", name := "go", desc := "()V" } : Jvm.MethodName)) ∈ BIG := List.mem_filter.mpr ⟨List.mem_of_getElem? (i := 900) (by decide +kernel), by decide +kernel⟩
theorem tw_848 : (Jvm.Cond.instanceMethod ({ cls := "CharMachineModel", name := "go", desc := "()V" } : Jvm.MethodName)) ∈ BIG := List.mem_filter.mpr ⟨List.mem_of_getElem? (i := 902) (by decide +kernel), by decide +kernel⟩
set_option maxRecDepth 100000 in
theorem tw_849 : (Jvm.Cond.code ({ cls := "CharMachineModel", name := "go", desc := "()V" } : Jvm.MethodName) prog_7_method_27_code (2 : Nat) (Option.none : Option Jvm.ClassFile.FieldType)) ∈ BIG := List.mem_filter.mpr ⟨List.mem_of_getElem? (i := 903) rfl, rfl⟩
theorem tw_850 : (Jvm.Cond.methodLink "CharMachineModel" (189 : Nat) ({ cls := "CharMachineModel", name := "edit", desc := "()I" } : Jvm.MethodName)) ∈ BIG := List.mem_filter.mpr ⟨List.mem_of_getElem? (i := 904) (by decide +kernel), by decide +kernel⟩
theorem tw_852 : (Jvm.Cond.instanceMethod ({ cls := "CharMachineModel", name := "edit", desc := "()I" } : Jvm.MethodName)) ∈ BIG := List.mem_filter.mpr ⟨List.mem_of_getElem? (i := 906) (by decide +kernel), by decide +kernel⟩
set_option maxRecDepth 100000 in
theorem tw_853 : (Jvm.Cond.code ({ cls := "CharMachineModel", name := "edit", desc := "()I" } : Jvm.MethodName) prog_7_method_29_code (4 : Nat) (Option.some Jvm.ClassFile.FieldType.int)) ∈ BIG := List.mem_filter.mpr ⟨List.mem_of_getElem? (i := 907) rfl, rfl⟩
theorem tw_854 : (Jvm.Cond.methodLink "CharMachineModel" (192 : Nat) ({ cls := "CharMachineModel", name := "branch", desc := "()I" } : Jvm.MethodName)) ∈ BIG := List.mem_filter.mpr ⟨List.mem_of_getElem? (i := 908) (by decide +kernel), by decide +kernel⟩
theorem tw_856 : (Jvm.Cond.instanceMethod ({ cls := "CharMachineModel", name := "branch", desc := "()I" } : Jvm.MethodName)) ∈ BIG := List.mem_filter.mpr ⟨List.mem_of_getElem? (i := 910) (by decide +kernel), by decide +kernel⟩
set_option maxRecDepth 100000 in
theorem tw_857 : (Jvm.Cond.code ({ cls := "CharMachineModel", name := "branch", desc := "()I" } : Jvm.MethodName) prog_7_method_31_code (3 : Nat) (Option.some Jvm.ClassFile.FieldType.int)) ∈ BIG := List.mem_filter.mpr ⟨List.mem_of_getElem? (i := 911) rfl, rfl⟩
theorem tw_858 : (Jvm.Cond.methodLink "CharMachineModel" (128 : Nat) ({ cls := "CharMachineModel", name := "modifier", desc := "()I" } : Jvm.MethodName)) ∈ BIG := List.mem_filter.mpr ⟨List.mem_of_getElem? (i := 912) (by decide +kernel), by decide +kernel⟩
theorem tw_860 : (Jvm.Cond.instanceMethod ({ cls := "CharMachineModel", name := "modifier", desc := "()I" } : Jvm.MethodName)) ∈ BIG := List.mem_filter.mpr ⟨List.mem_of_getElem? (i := 914) (by decide +kernel), by decide +kernel⟩
set_option maxRecDepth 100000 in
theorem tw_861 : (Jvm.Cond.code ({ cls := "CharMachineModel", name := "modifier", desc := "()I" } : Jvm.MethodName) prog_7_method_30_code (1 : Nat) (Option.some Jvm.ClassFile.FieldType.int)) ∈ BIG := List.mem_filter.mpr ⟨List.mem_of_getElem? (i := 915) rfl, rfl⟩
theorem tw_862 : (Jvm.Cond.methodLink "CharMachineModel" (195 : Nat) ({ cls := "CharMachineModel", name := "branchMark", desc := "()I" } : Jvm.MethodName)) ∈ BIG := List.mem_filter.mpr ⟨List.mem_of_getElem? (i := 916) (by decide +kernel), by decide +kernel⟩
theorem tw_864 : (Jvm.Cond.instanceMethod ({ cls := "CharMachineModel", name := "branchMark", desc := "()I" } : Jvm.MethodName)) ∈ BIG := List.mem_filter.mpr ⟨List.mem_of_getElem? (i := 918) (by decide +kernel), by decide +kernel⟩
set_option maxRecDepth 100000 in
theorem tw_865 : (Jvm.Cond.code ({ cls := "CharMachineModel", name := "branchMark", desc := "()I" } : Jvm.MethodName) prog_7_method_32_code (5 : Nat) (Option.some Jvm.ClassFile.FieldType.int)) ∈ BIG := List.mem_filter.mpr ⟨List.mem_of_getElem? (i := 919) rfl, rfl⟩
theorem tw_866 : (Jvm.Cond.methodLink "CharMachineModel" (198 : Nat) ({ cls := "CharMachineModel", name := "device", desc := "()I" } : Jvm.MethodName)) ∈ BIG := List.mem_filter.mpr ⟨List.mem_of_getElem? (i := 920) (by decide +kernel), by decide +kernel⟩
theorem tw_868 : (Jvm.Cond.instanceMethod ({ cls := "CharMachineModel", name := "device", desc := "()I" } : Jvm.MethodName)) ∈ BIG := List.mem_filter.mpr ⟨List.mem_of_getElem? (i := 922) (by decide +kernel), by decide +kernel⟩
set_option maxRecDepth 100000 in
theorem tw_869 : (Jvm.Cond.code ({ cls := "CharMachineModel", name := "device", desc := "()I" } : Jvm.MethodName) prog_7_method_36_code (2 : Nat) (Option.some Jvm.ClassFile.FieldType.int)) ∈ BIG := List.mem_filter.mpr ⟨List.mem_of_getElem? (i := 923) rfl, rfl⟩
theorem tw_870 : (Jvm.Cond.methodLink "CharMachineModel" (140 : Nat) ({ cls := "CharMachineModel", name := "readCard", desc := "()I" } : Jvm.MethodName)) ∈ BIG := List.mem_filter.mpr ⟨List.mem_of_getElem? (i := 924) (by decide +kernel), by decide +kernel⟩
theorem tw_872 : (Jvm.Cond.instanceMethod ({ cls := "CharMachineModel", name := "readCard", desc := "()I" } : Jvm.MethodName)) ∈ BIG := List.mem_filter.mpr ⟨List.mem_of_getElem? (i := 926) (by decide +kernel), by decide +kernel⟩
set_option maxRecDepth 100000 in
theorem tw_873 : (Jvm.Cond.code ({ cls := "CharMachineModel", name := "readCard", desc := "()I" } : Jvm.MethodName) prog_7_method_33_code (2 : Nat) (Option.some Jvm.ClassFile.FieldType.int)) ∈ BIG := List.mem_filter.mpr ⟨List.mem_of_getElem? (i := 927) rfl, rfl⟩
theorem tw_874 : (Jvm.Cond.methodLink "CharMachineModel" (143 : Nat) ({ cls := "CharMachineModel", name := "print", desc := "()I" } : Jvm.MethodName)) ∈ BIG := List.mem_filter.mpr ⟨List.mem_of_getElem? (i := 928) (by decide +kernel), by decide +kernel⟩
theorem tw_876 : (Jvm.Cond.instanceMethod ({ cls := "CharMachineModel", name := "print", desc := "()I" } : Jvm.MethodName)) ∈ BIG := List.mem_filter.mpr ⟨List.mem_of_getElem? (i := 930) (by decide +kernel), by decide +kernel⟩
set_option maxRecDepth 100000 in
theorem tw_877 : (Jvm.Cond.code ({ cls := "CharMachineModel", name := "print", desc := "()I" } : Jvm.MethodName) prog_7_method_34_code (2 : Nat) (Option.some Jvm.ClassFile.FieldType.int)) ∈ BIG := List.mem_filter.mpr ⟨List.mem_of_getElem? (i := 931) rfl, rfl⟩
theorem tw_878 : (Jvm.Cond.methodLink "CharMachineModel" (146 : Nat) ({ cls := "CharMachineModel", name := "punchCard", desc := "()I" } : Jvm.MethodName)) ∈ BIG := List.mem_filter.mpr ⟨List.mem_of_getElem? (i := 932) (by decide +kernel), by decide +kernel⟩
theorem tw_880 : (Jvm.Cond.instanceMethod ({ cls := "CharMachineModel", name := "punchCard", desc := "()I" } : Jvm.MethodName)) ∈ BIG := List.mem_filter.mpr ⟨List.mem_of_getElem? (i := 934) (by decide +kernel), by decide +kernel⟩
set_option maxRecDepth 100000 in
theorem tw_881 : (Jvm.Cond.code ({ cls := "CharMachineModel", name := "punchCard", desc := "()I" } : Jvm.MethodName) prog_7_method_35_code (2 : Nat) (Option.some Jvm.ClassFile.FieldType.int)) ∈ BIG := List.mem_filter.mpr ⟨List.mem_of_getElem? (i := 935) rfl, rfl⟩
theorem tw_882 : (Jvm.Cond.methodLink "CharMachineModel" (201 : Nat) ({ cls := "CharMachineModel", name := "keepRegister", desc := "()I" } : Jvm.MethodName)) ∈ BIG := List.mem_filter.mpr ⟨List.mem_of_getElem? (i := 936) (by decide +kernel), by decide +kernel⟩
theorem tw_884 : (Jvm.Cond.instanceMethod ({ cls := "CharMachineModel", name := "keepRegister", desc := "()I" } : Jvm.MethodName)) ∈ BIG := List.mem_filter.mpr ⟨List.mem_of_getElem? (i := 938) (by decide +kernel), by decide +kernel⟩
set_option maxRecDepth 100000 in
theorem tw_885 : (Jvm.Cond.code ({ cls := "CharMachineModel", name := "keepRegister", desc := "()I" } : Jvm.MethodName) prog_7_method_37_code (3 : Nat) (Option.some Jvm.ClassFile.FieldType.int)) ∈ BIG := List.mem_filter.mpr ⟨List.mem_of_getElem? (i := 939) rfl, rfl⟩
theorem tw_886 : (Jvm.Cond.methodLink "CharMachineModel" (204 : Nat) ({ cls := "CharMachineModel", name := "stopHere", desc := "()I" } : Jvm.MethodName)) ∈ BIG := List.mem_filter.mpr ⟨List.mem_of_getElem? (i := 940) (by decide +kernel), by decide +kernel⟩
theorem tw_888 : (Jvm.Cond.instanceMethod ({ cls := "CharMachineModel", name := "stopHere", desc := "()I" } : Jvm.MethodName)) ∈ BIG := List.mem_filter.mpr ⟨List.mem_of_getElem? (i := 942) (by decide +kernel), by decide +kernel⟩
set_option maxRecDepth 100000 in
theorem tw_889 : (Jvm.Cond.code ({ cls := "CharMachineModel", name := "stopHere", desc := "()I" } : Jvm.MethodName) prog_7_method_42_code (1 : Nat) (Option.some Jvm.ClassFile.FieldType.int)) ∈ BIG := List.mem_filter.mpr ⟨List.mem_of_getElem? (i := 943) rfl, rfl⟩
theorem tw_890 : (Jvm.Cond.methodLink "CharMachineLaw" (92 : Nat) ({ cls := "CharMachineModel", name := "at", desc := "(I)I" } : Jvm.MethodName)) ∈ BIG := List.mem_filter.mpr ⟨List.mem_of_getElem? (i := 944) (by decide +kernel), by decide +kernel⟩
theorem tw_891 : (Jvm.Cond.instanceMethod ({ cls := "CharMachineModel", name := "at", desc := "(I)I" } : Jvm.MethodName)) ∈ BIG := List.mem_filter.mpr ⟨List.mem_of_getElem? (i := 945) (by decide +kernel), by decide +kernel⟩
theorem tw_892 : (Jvm.Cond.selects "CharMachineModel" ({ cls := "CharMachineModel", name := "at", desc := "(I)I" } : Jvm.MethodName) ({ cls := "CharMachineModel", name := "at", desc := "(I)I" } : Jvm.MethodName)) ∈ BIG := List.mem_filter.mpr ⟨List.mem_of_getElem? (i := 946) (by decide +kernel), by decide +kernel⟩
set_option maxRecDepth 100000 in
theorem tw_893 : (Jvm.Cond.code ({ cls := "CharMachineModel", name := "at", desc := "(I)I" } : Jvm.MethodName) prog_7_method_45_code (2 : Nat) (Option.some Jvm.ClassFile.FieldType.int)) ∈ BIG := List.mem_filter.mpr ⟨List.mem_of_getElem? (i := 947) rfl, rfl⟩
theorem tw_894 : (Jvm.Cond.methodLink "CharMachineLaw" (95 : Nat) ({ cls := "CharMachineModel", name := "isMarked", desc := "(I)Z" } : Jvm.MethodName)) ∈ BIG := List.mem_filter.mpr ⟨List.mem_of_getElem? (i := 948) (by decide +kernel), by decide +kernel⟩
theorem tw_895 : (Jvm.Cond.instanceMethod ({ cls := "CharMachineModel", name := "isMarked", desc := "(I)Z" } : Jvm.MethodName)) ∈ BIG := List.mem_filter.mpr ⟨List.mem_of_getElem? (i := 949) (by decide +kernel), by decide +kernel⟩
theorem tw_896 : (Jvm.Cond.selects "CharMachineModel" ({ cls := "CharMachineModel", name := "isMarked", desc := "(I)Z" } : Jvm.MethodName) ({ cls := "CharMachineModel", name := "isMarked", desc := "(I)Z" } : Jvm.MethodName)) ∈ BIG := List.mem_filter.mpr ⟨List.mem_of_getElem? (i := 950) (by decide +kernel), by decide +kernel⟩
set_option maxRecDepth 100000 in
theorem tw_897 : (Jvm.Cond.code ({ cls := "CharMachineModel", name := "isMarked", desc := "(I)Z" } : Jvm.MethodName) prog_7_method_46_code (2 : Nat) (Option.some Jvm.ClassFile.FieldType.boolean)) ∈ BIG := List.mem_filter.mpr ⟨List.mem_of_getElem? (i := 951) rfl, rfl⟩
theorem tw_898 : (Jvm.Cond.methodLink "CharMachineLaw" (99 : Nat) ({ cls := "CharMachineModel", name := "state", desc := "(I)I" } : Jvm.MethodName)) ∈ BIG := List.mem_filter.mpr ⟨List.mem_of_getElem? (i := 952) (by decide +kernel), by decide +kernel⟩
theorem tw_899 : (Jvm.Cond.instanceMethod ({ cls := "CharMachineModel", name := "state", desc := "(I)I" } : Jvm.MethodName)) ∈ BIG := List.mem_filter.mpr ⟨List.mem_of_getElem? (i := 953) (by decide +kernel), by decide +kernel⟩
theorem tw_900 : (Jvm.Cond.selects "CharMachineModel" ({ cls := "CharMachineModel", name := "state", desc := "(I)I" } : Jvm.MethodName) ({ cls := "CharMachineModel", name := "state", desc := "(I)I" } : Jvm.MethodName)) ∈ BIG := List.mem_filter.mpr ⟨List.mem_of_getElem? (i := 954) (by decide +kernel), by decide +kernel⟩
set_option maxRecDepth 100000 in
theorem tw_901 : (Jvm.Cond.code ({ cls := "CharMachineModel", name := "state", desc := "(I)I" } : Jvm.MethodName) prog_7_method_47_code (2 : Nat) (Option.some Jvm.ClassFile.FieldType.int)) ∈ BIG := List.mem_filter.mpr ⟨List.mem_of_getElem? (i := 955) rfl, rfl⟩
theorem tw_902 : (Jvm.Cond.methodLink "CharMachineLaw" (103 : Nat) ({ cls := "CharMachineModel", name := "printed", desc := "(II)I" } : Jvm.MethodName)) ∈ BIG := List.mem_filter.mpr ⟨List.mem_of_getElem? (i := 956) (by decide +kernel), by decide +kernel⟩
theorem tw_903 : (Jvm.Cond.instanceMethod ({ cls := "CharMachineModel", name := "printed", desc := "(II)I" } : Jvm.MethodName)) ∈ BIG := List.mem_filter.mpr ⟨List.mem_of_getElem? (i := 957) (by decide +kernel), by decide +kernel⟩
theorem tw_904 : (Jvm.Cond.selects "CharMachineModel" ({ cls := "CharMachineModel", name := "printed", desc := "(II)I" } : Jvm.MethodName) ({ cls := "CharMachineModel", name := "printed", desc := "(II)I" } : Jvm.MethodName)) ∈ BIG := List.mem_filter.mpr ⟨List.mem_of_getElem? (i := 958) (by decide +kernel), by decide +kernel⟩
set_option maxRecDepth 100000 in
theorem tw_905 : (Jvm.Cond.code ({ cls := "CharMachineModel", name := "printed", desc := "(II)I" } : Jvm.MethodName) prog_7_method_48_code (3 : Nat) (Option.some Jvm.ClassFile.FieldType.int)) ∈ BIG := List.mem_filter.mpr ⟨List.mem_of_getElem? (i := 959) rfl, rfl⟩
theorem tw_906 : (Jvm.Cond.methodLink "CharMachineLaw" (106 : Nat) ({ cls := "CharMachineModel", name := "punched", desc := "(II)I" } : Jvm.MethodName)) ∈ BIG := List.mem_filter.mpr ⟨List.mem_of_getElem? (i := 960) (by decide +kernel), by decide +kernel⟩
theorem tw_907 : (Jvm.Cond.instanceMethod ({ cls := "CharMachineModel", name := "punched", desc := "(II)I" } : Jvm.MethodName)) ∈ BIG := List.mem_filter.mpr ⟨List.mem_of_getElem? (i := 961) (by decide +kernel), by decide +kernel⟩
theorem tw_908 : (Jvm.Cond.selects "CharMachineModel" ({ cls := "CharMachineModel", name := "punched", desc := "(II)I" } : Jvm.MethodName) ({ cls := "CharMachineModel", name := "punched", desc := "(II)I" } : Jvm.MethodName)) ∈ BIG := List.mem_filter.mpr ⟨List.mem_of_getElem? (i := 962) (by decide +kernel), by decide +kernel⟩
set_option maxRecDepth 100000 in
theorem tw_909 : (Jvm.Cond.code ({ cls := "CharMachineModel", name := "punched", desc := "(II)I" } : Jvm.MethodName) prog_7_method_49_code (3 : Nat) (Option.some Jvm.ClassFile.FieldType.int)) ∈ BIG := List.mem_filter.mpr ⟨List.mem_of_getElem? (i := 963) rfl, rfl⟩
theorem tw_910 : (Jvm.Cond.methodLink "CharMachineLaw" (109 : Nat) ({ cls := "CharMachineModel", name := "number", desc := "(I)J" } : Jvm.MethodName)) ∈ BIG := List.mem_filter.mpr ⟨List.mem_of_getElem? (i := 964) (by decide +kernel), by decide +kernel⟩
theorem tw_911 : (Jvm.Cond.instanceMethod ({ cls := "CharMachineModel", name := "number", desc := "(I)J" } : Jvm.MethodName)) ∈ BIG := List.mem_filter.mpr ⟨List.mem_of_getElem? (i := 965) (by decide +kernel), by decide +kernel⟩
theorem tw_912 : (Jvm.Cond.selects "CharMachineModel" ({ cls := "CharMachineModel", name := "number", desc := "(I)J" } : Jvm.MethodName) ({ cls := "CharMachineModel", name := "number", desc := "(I)J" } : Jvm.MethodName)) ∈ BIG := List.mem_filter.mpr ⟨List.mem_of_getElem? (i := 966) (by decide +kernel), by decide +kernel⟩
set_option maxRecDepth 100000 in
theorem tw_913 : (Jvm.Cond.code ({ cls := "CharMachineModel", name := "number", desc := "(I)J" } : Jvm.MethodName) prog_7_method_50_code (6 : Nat) (Option.some Jvm.ClassFile.FieldType.long)) ∈ BIG := List.mem_filter.mpr ⟨List.mem_of_getElem? (i := 967) rfl, rfl⟩
theorem tw_914 : (Jvm.Cond.constantLong "CharMachineModel" (219 : Nat) (10 : Int64)) ∈ BIG := List.mem_filter.mpr ⟨List.mem_of_getElem? (i := 968) (by decide +kernel), by decide +kernel⟩
theorem tw_915 : (Jvm.Cond.methodLink "CharMachineLaw" (113 : Nat) ({ cls := "CharMachineModel", name := "count", desc := "(I)I" } : Jvm.MethodName)) ∈ BIG := List.mem_filter.mpr ⟨List.mem_of_getElem? (i := 969) (by decide +kernel), by decide +kernel⟩
theorem tw_916 : (Jvm.Cond.instanceMethod ({ cls := "CharMachineModel", name := "count", desc := "(I)I" } : Jvm.MethodName)) ∈ BIG := List.mem_filter.mpr ⟨List.mem_of_getElem? (i := 970) (by decide +kernel), by decide +kernel⟩
theorem tw_917 : (Jvm.Cond.selects "CharMachineModel" ({ cls := "CharMachineModel", name := "count", desc := "(I)I" } : Jvm.MethodName) ({ cls := "CharMachineModel", name := "count", desc := "(I)I" } : Jvm.MethodName)) ∈ BIG := List.mem_filter.mpr ⟨List.mem_of_getElem? (i := 971) (by decide +kernel), by decide +kernel⟩
set_option maxRecDepth 100000 in
theorem tw_918 : (Jvm.Cond.code ({ cls := "CharMachineModel", name := "count", desc := "(I)I" } : Jvm.MethodName) prog_7_method_51_code (4 : Nat) (Option.some Jvm.ClassFile.FieldType.int)) ∈ BIG := List.mem_filter.mpr ⟨List.mem_of_getElem? (i := 972) rfl, rfl⟩
theorem tw_919 : (Jvm.Cond.constantLong "CharMachineLaw" (64 : Nat) (4294967295 : Int64)) ∈ BIG := List.mem_filter.mpr ⟨List.mem_of_getElem? (i := 973) (by decide +kernel), by decide +kernel⟩
theorem tw_920 : (Jvm.Cond.arrayClass Jvm.ClassFile.FieldType.long) ∈ BIG := List.mem_filter.mpr ⟨List.mem_of_getElem? (i := 974) (by decide +kernel), by decide +kernel⟩
def nwL : List Cond := [(Jvm.Cond.fieldLinkNest "CharMachine" (84 : Nat) "CharMachine$Processor" "i" "I" "CharMachine"), (Jvm.Cond.fieldLinkNest "CharMachine" (107 : Nat) "CharMachine$Processor" "a" "I" "CharMachine"), (Jvm.Cond.fieldLinkNest "CharMachine" (110 : Nat) "CharMachine$Processor" "b" "I" "CharMachine"), (Jvm.Cond.fieldLinkNest "CharMachine" (113 : Nat) "CharMachine$Processor" "comparison" "I" "CharMachine"), (Jvm.Cond.fieldLinkNest "CharMachine" (116 : Nat) "CharMachine$Processor" "overflow" "Z" "CharMachine"), (Jvm.Cond.fieldLinkNest "CharMachine" (120 : Nat) "CharMachine$Processor" "lastCard" "Z" "CharMachine"), (Jvm.Cond.methodLinkNest "CharMachine$Arithmetic" (27 : Nat) ({ cls := "CharMachine", name := "written", desc := "(I)I" } : Jvm.MethodName) "CharMachine"), (Jvm.Cond.methodLinkNest "CharMachine$Processor" (148 : Nat) ({ cls := "CharMachine", name := "signZone", desc := "(Z)I" } : Jvm.MethodName) "CharMachine"), (Jvm.Cond.methodLinkNest "CharMachine$Store" (55 : Nat) ({ cls := "CharMachine", name := "written", desc := "(I)I" } : Jvm.MethodName) "CharMachine")]
theorem nwL_in : ∀ w ∈ nwL, w ∈ lw_tbl := by decide +kernel
end
section
def R_AR : String := "CharMachine$Arithmetic"
def T_AR : u_T := fun k => match k with
  | 0 => (R_AR, "store", "LCharMachine$Store;", true)
  | _ => (R_AR, "digits", "[I", true)
def t_AR : Nat → FieldType := fun k => match k with
  | 0 => .object "CharMachine$Store"
  | _ => .array .int
theorem n_AR : ∀ a, a < 2 → ∀ b, b < 2 → a ≠ b → (T_AR a).2.1 ≠ (T_AR b).2.1 := by decide +kernel
theorem t_AR_ok : ∀ k, k < 2 → parseFieldDescriptor (T_AR k).2.2.1 = some (t_AR k) := by decide +kernel
theorem ly_AR_0 : u_lay R_AR T_AR 0 ∈ BIG := tw_73
theorem ly_AR_1 : u_lay R_AR T_AR 1 ∈ BIG := tw_75
theorem lays_AR : ∀ w ∈ u_ws R_AR T_AR 2, w ∈ BIG := by
  intro w hw
  obtain ⟨k, hk, rfl⟩ := List.mem_map.mp hw
  have hk := List.mem_range.mp hk
  match k, hk with
  | 0, _ => exact ly_AR_0
  | 1, _ => exact ly_AR_1
  | k + 2, h => exact absurd h (by omega)
def R_PI : String := "CharMachine$Pile"
def T_PI : u_T := fun k => match k with
  | 0 => (R_PI, "limit", "I", true)
  | 1 => (R_PI, "width", "I", true)
  | 2 => (R_PI, "columns", "[I", true)
  | _ => (R_PI, "filled", "I", false)
def t_PI : Nat → FieldType := fun k => match k with
  | 0 => .int
  | 1 => .int
  | 2 => .array .int
  | _ => .int
theorem n_PI : ∀ a, a < 4 → ∀ b, b < 4 → a ≠ b → (T_PI a).2.1 ≠ (T_PI b).2.1 := by decide +kernel
theorem t_PI_ok : ∀ k, k < 4 → parseFieldDescriptor (T_PI k).2.2.1 = some (t_PI k) := by decide +kernel
theorem ly_PI_0 : u_lay R_PI T_PI 0 ∈ BIG := tw_46
theorem ly_PI_1 : u_lay R_PI T_PI 1 ∈ BIG := tw_48
theorem ly_PI_2 : u_lay R_PI T_PI 2 ∈ BIG := tw_50
theorem ly_PI_3 : u_lay R_PI T_PI 3 ∈ BIG := tw_52
theorem lays_PI : ∀ w ∈ u_ws R_PI T_PI 4, w ∈ BIG := by
  intro w hw
  obtain ⟨k, hk, rfl⟩ := List.mem_map.mp hw
  have hk := List.mem_range.mp hk
  match k, hk with
  | 0, _ => exact ly_PI_0
  | 1, _ => exact ly_PI_1
  | 2, _ => exact ly_PI_2
  | 3, _ => exact ly_PI_3
  | k + 4, h => exact absurd h (by omega)
def R_PR : String := "CharMachine$Processor"
def T_PR : u_T := fun k => match k with
  | 0 => (R_PR, "store", "LCharMachine$Store;", true)
  | 1 => (R_PR, "cards", "LCharMachine$Pile;", true)
  | 2 => (R_PR, "lines", "LCharMachine$Pile;", true)
  | 3 => (R_PR, "punches", "LCharMachine$Pile;", true)
  | 4 => (R_PR, "arithmetic", "LCharMachine$Arithmetic;", true)
  | 5 => (R_PR, "i", "I", false)
  | 6 => (R_PR, "a", "I", false)
  | 7 => (R_PR, "b", "I", false)
  | 8 => (R_PR, "comparison", "I", false)
  | 9 => (R_PR, "overflow", "Z", false)
  | 10 => (R_PR, "lastCard", "Z", false)
  | _ => (R_PR, "cardsRead", "I", false)
def t_PR : Nat → FieldType := fun k => match k with
  | 0 => .object "CharMachine$Store"
  | 1 => .object "CharMachine$Pile"
  | 2 => .object "CharMachine$Pile"
  | 3 => .object "CharMachine$Pile"
  | 4 => .object "CharMachine$Arithmetic"
  | 5 => .int
  | 6 => .int
  | 7 => .int
  | 8 => .int
  | 9 => .boolean
  | 10 => .boolean
  | _ => .int
theorem n_PR : ∀ a, a < 12 → ∀ b, b < 12 → a ≠ b → (T_PR a).2.1 ≠ (T_PR b).2.1 := by decide +kernel
theorem t_PR_ok : ∀ k, k < 12 → parseFieldDescriptor (T_PR k).2.2.1 = some (t_PR k) := by decide +kernel
theorem ly_PR_0 : u_lay R_PR T_PR 0 ∈ BIG := tw_96
theorem ly_PR_1 : u_lay R_PR T_PR 1 ∈ BIG := tw_98
theorem ly_PR_2 : u_lay R_PR T_PR 2 ∈ BIG := tw_100
theorem ly_PR_3 : u_lay R_PR T_PR 3 ∈ BIG := tw_102
theorem ly_PR_4 : u_lay R_PR T_PR 4 ∈ BIG := tw_104
theorem ly_PR_5 : u_lay R_PR T_PR 5 ∈ BIG := tw_106
theorem ly_PR_6 : u_lay R_PR T_PR 6 ∈ BIG := tw_108
theorem ly_PR_7 : u_lay R_PR T_PR 7 ∈ BIG := tw_110
theorem ly_PR_8 : u_lay R_PR T_PR 8 ∈ BIG := tw_112
theorem ly_PR_9 : u_lay R_PR T_PR 9 ∈ BIG := tw_114
theorem ly_PR_10 : u_lay R_PR T_PR 10 ∈ BIG := tw_116
theorem ly_PR_11 : u_lay R_PR T_PR 11 ∈ BIG := tw_118
theorem lays_PR : ∀ w ∈ u_ws R_PR T_PR 12, w ∈ BIG := by
  intro w hw
  obtain ⟨k, hk, rfl⟩ := List.mem_map.mp hw
  have hk := List.mem_range.mp hk
  match k, hk with
  | 0, _ => exact ly_PR_0
  | 1, _ => exact ly_PR_1
  | 2, _ => exact ly_PR_2
  | 3, _ => exact ly_PR_3
  | 4, _ => exact ly_PR_4
  | 5, _ => exact ly_PR_5
  | 6, _ => exact ly_PR_6
  | 7, _ => exact ly_PR_7
  | 8, _ => exact ly_PR_8
  | 9, _ => exact ly_PR_9
  | 10, _ => exact ly_PR_10
  | 11, _ => exact ly_PR_11
  | k + 12, h => exact absurd h (by omega)
def R_ST : String := "CharMachine$Store"
def T_ST : u_T := fun k => match k with
  | _ => (R_ST, "cells", "[I", true)
def t_ST : Nat → FieldType := fun k => match k with
  | _ => .array .int
theorem n_ST : ∀ a, a < 1 → ∀ b, b < 1 → a ≠ b → (T_ST a).2.1 ≠ (T_ST b).2.1 := by decide +kernel
theorem t_ST_ok : ∀ k, k < 1 → parseFieldDescriptor (T_ST k).2.2.1 = some (t_ST k) := by decide +kernel
theorem ly_ST_0 : u_lay R_ST T_ST 0 ∈ BIG := tw_32
theorem lays_ST : ∀ w ∈ u_ws R_ST T_ST 1, w ∈ BIG := by
  intro w hw
  obtain ⟨k, hk, rfl⟩ := List.mem_map.mp hw
  have hk := List.mem_range.mp hk
  match k, hk with
  | 0, _ => exact ly_ST_0
  | k + 1, h => exact absurd h (by omega)
def R_CM : String := "CharMachine"
def T_CM : u_T := fun k => match k with
  | 0 => (R_CM, "store", "LCharMachine$Store;", true)
  | 1 => (R_CM, "cards", "LCharMachine$Pile;", true)
  | 2 => (R_CM, "lines", "LCharMachine$Pile;", true)
  | 3 => (R_CM, "punches", "LCharMachine$Pile;", true)
  | 4 => (R_CM, "processor", "LCharMachine$Processor;", true)
  | 5 => (R_CM, "stepsSoFar", "I", false)
  | _ => (R_CM, "latestAnswer", "I", false)
def t_CM : Nat → FieldType := fun k => match k with
  | 0 => .object "CharMachine$Store"
  | 1 => .object "CharMachine$Pile"
  | 2 => .object "CharMachine$Pile"
  | 3 => .object "CharMachine$Pile"
  | 4 => .object "CharMachine$Processor"
  | 5 => .int
  | _ => .int
theorem n_CM : ∀ a, a < 7 → ∀ b, b < 7 → a ≠ b → (T_CM a).2.1 ≠ (T_CM b).2.1 := by decide +kernel
theorem t_CM_ok : ∀ k, k < 7 → parseFieldDescriptor (T_CM k).2.2.1 = some (t_CM k) := by decide +kernel
theorem ly_CM_0 : u_lay R_CM T_CM 0 ∈ BIG := tw_128
theorem ly_CM_1 : u_lay R_CM T_CM 1 ∈ BIG := tw_130
theorem ly_CM_2 : u_lay R_CM T_CM 2 ∈ BIG := tw_132
theorem ly_CM_3 : u_lay R_CM T_CM 3 ∈ BIG := tw_134
theorem ly_CM_4 : u_lay R_CM T_CM 4 ∈ BIG := tw_136
theorem ly_CM_5 : u_lay R_CM T_CM 5 ∈ BIG := tw_138
theorem ly_CM_6 : u_lay R_CM T_CM 6 ∈ BIG := tw_140
theorem lays_CM : ∀ w ∈ u_ws R_CM T_CM 7, w ∈ BIG := by
  intro w hw
  obtain ⟨k, hk, rfl⟩ := List.mem_map.mp hw
  have hk := List.mem_range.mp hk
  match k, hk with
  | 0, _ => exact ly_CM_0
  | 1, _ => exact ly_CM_1
  | 2, _ => exact ly_CM_2
  | 3, _ => exact ly_CM_3
  | 4, _ => exact ly_CM_4
  | 5, _ => exact ly_CM_5
  | 6, _ => exact ly_CM_6
  | k + 7, h => exact absurd h (by omega)
def R_MO : String := "CharMachineModel"
def T_MO : u_T := fun k => match k with
  | 0 => (R_MO, "thrown", "I", false)
  | 1 => (R_MO, "size", "I", true)
  | 2 => (R_MO, "store", "[B", true)
  | 3 => (R_MO, "mark", "[Z", true)
  | 4 => (R_MO, "at", "I", false)
  | 5 => (R_MO, "a", "I", false)
  | 6 => (R_MO, "b", "I", false)
  | 7 => (R_MO, "compared", "I", false)
  | 8 => (R_MO, "overflow", "Z", false)
  | 9 => (R_MO, "last", "Z", false)
  | 10 => (R_MO, "steps", "I", false)
  | 11 => (R_MO, "answer", "I", false)
  | 12 => (R_MO, "op", "I", false)
  | 13 => (R_MO, "length", "I", false)
  | 14 => (R_MO, "from", "I", false)
  | 15 => (R_MO, "hadA", "I", false)
  | 16 => (R_MO, "hadB", "I", false)
  | 17 => (R_MO, "making", "[B", true)
  | 18 => (R_MO, "cards", "I", false)
  | 19 => (R_MO, "read", "I", false)
  | 20 => (R_MO, "card", "[B", true)
  | 21 => (R_MO, "lines", "I", false)
  | 22 => (R_MO, "line", "[B", true)
  | 23 => (R_MO, "punched", "I", false)
  | 24 => (R_MO, "punch", "[B", true)
  | 25 => (R_MO, "one", "[I", true)
  | 26 => (R_MO, "two", "[I", true)
  | _ => (R_MO, "copy", "[B", true)
def t_MO : Nat → FieldType := fun k => match k with
  | 0 => .int
  | 1 => .int
  | 2 => .array .byte
  | 3 => .array .boolean
  | 4 => .int
  | 5 => .int
  | 6 => .int
  | 7 => .int
  | 8 => .boolean
  | 9 => .boolean
  | 10 => .int
  | 11 => .int
  | 12 => .int
  | 13 => .int
  | 14 => .int
  | 15 => .int
  | 16 => .int
  | 17 => .array .byte
  | 18 => .int
  | 19 => .int
  | 20 => .array .byte
  | 21 => .int
  | 22 => .array .byte
  | 23 => .int
  | 24 => .array .byte
  | 25 => .array .int
  | 26 => .array .int
  | _ => .array .byte
theorem n_MO : ∀ a, a < 28 → ∀ b, b < 28 → a ≠ b → (T_MO a).2.1 ≠ (T_MO b).2.1 := by decide +kernel
theorem t_MO_ok : ∀ k, k < 28 → parseFieldDescriptor (T_MO k).2.2.1 = some (t_MO k) := by decide +kernel
theorem ly_MO_0 : u_lay R_MO T_MO 0 ∈ BIG := tw_664
theorem ly_MO_1 : u_lay R_MO T_MO 1 ∈ BIG := tw_666
theorem ly_MO_2 : u_lay R_MO T_MO 2 ∈ BIG := tw_668
theorem ly_MO_3 : u_lay R_MO T_MO 3 ∈ BIG := tw_670
theorem ly_MO_4 : u_lay R_MO T_MO 4 ∈ BIG := tw_672
theorem ly_MO_5 : u_lay R_MO T_MO 5 ∈ BIG := tw_674
theorem ly_MO_6 : u_lay R_MO T_MO 6 ∈ BIG := tw_676
theorem ly_MO_7 : u_lay R_MO T_MO 7 ∈ BIG := tw_678
theorem ly_MO_8 : u_lay R_MO T_MO 8 ∈ BIG := tw_680
theorem ly_MO_9 : u_lay R_MO T_MO 9 ∈ BIG := tw_682
theorem ly_MO_10 : u_lay R_MO T_MO 10 ∈ BIG := tw_684
theorem ly_MO_11 : u_lay R_MO T_MO 11 ∈ BIG := tw_686
theorem ly_MO_12 : u_lay R_MO T_MO 12 ∈ BIG := tw_688
theorem ly_MO_13 : u_lay R_MO T_MO 13 ∈ BIG := tw_690
theorem ly_MO_14 : u_lay R_MO T_MO 14 ∈ BIG := tw_692
theorem ly_MO_15 : u_lay R_MO T_MO 15 ∈ BIG := tw_694
theorem ly_MO_16 : u_lay R_MO T_MO 16 ∈ BIG := tw_696
theorem ly_MO_17 : u_lay R_MO T_MO 17 ∈ BIG := tw_698
theorem ly_MO_18 : u_lay R_MO T_MO 18 ∈ BIG := tw_700
theorem ly_MO_19 : u_lay R_MO T_MO 19 ∈ BIG := tw_702
theorem ly_MO_20 : u_lay R_MO T_MO 20 ∈ BIG := tw_704
theorem ly_MO_21 : u_lay R_MO T_MO 21 ∈ BIG := tw_706
theorem ly_MO_22 : u_lay R_MO T_MO 22 ∈ BIG := tw_708
theorem ly_MO_23 : u_lay R_MO T_MO 23 ∈ BIG := tw_710
theorem ly_MO_24 : u_lay R_MO T_MO 24 ∈ BIG := tw_712
theorem ly_MO_25 : u_lay R_MO T_MO 25 ∈ BIG := tw_714
theorem ly_MO_26 : u_lay R_MO T_MO 26 ∈ BIG := tw_716
theorem ly_MO_27 : u_lay R_MO T_MO 27 ∈ BIG := tw_718
theorem lays_MO : ∀ w ∈ u_ws R_MO T_MO 28, w ∈ BIG := by
  intro w hw
  obtain ⟨k, hk, rfl⟩ := List.mem_map.mp hw
  have hk := List.mem_range.mp hk
  match k, hk with
  | 0, _ => exact ly_MO_0
  | 1, _ => exact ly_MO_1
  | 2, _ => exact ly_MO_2
  | 3, _ => exact ly_MO_3
  | 4, _ => exact ly_MO_4
  | 5, _ => exact ly_MO_5
  | 6, _ => exact ly_MO_6
  | 7, _ => exact ly_MO_7
  | 8, _ => exact ly_MO_8
  | 9, _ => exact ly_MO_9
  | 10, _ => exact ly_MO_10
  | 11, _ => exact ly_MO_11
  | 12, _ => exact ly_MO_12
  | 13, _ => exact ly_MO_13
  | 14, _ => exact ly_MO_14
  | 15, _ => exact ly_MO_15
  | 16, _ => exact ly_MO_16
  | 17, _ => exact ly_MO_17
  | 18, _ => exact ly_MO_18
  | 19, _ => exact ly_MO_19
  | 20, _ => exact ly_MO_20
  | 21, _ => exact ly_MO_21
  | 22, _ => exact ly_MO_22
  | 23, _ => exact ly_MO_23
  | 24, _ => exact ly_MO_24
  | 25, _ => exact ly_MO_25
  | 26, _ => exact ly_MO_26
  | 27, _ => exact ly_MO_27
  | k + 28, h => exact absurd h (by omega)
def R_LA : String := "CharMachineLaw"
abbrev vwCl : List vw_C := [(R_AR, T_AR, 2), (R_PI, T_PI, 4), (R_PR, T_PR, 12), (R_ST, T_ST, 1), (R_CM, T_CM, 7), (R_MO, T_MO, 28)]
abbrev b_AR_init : ByteArray := prog_2_method_1_code
def y_AR_init : MethodName := ⟨R_AR, "<init>", "(LCharMachine$Store;)V"⟩
abbrev b_AR_readDigits : ByteArray := prog_2_method_2_code
def y_AR_readDigits : MethodName := ⟨R_AR, "readDigits", "(III)V"⟩
abbrev b_AR_replace : ByteArray := prog_2_method_3_code
def y_AR_replace : MethodName := ⟨R_AR, "replace", "(II)V"⟩
abbrev b_AR_add : ByteArray := prog_2_method_4_code
def y_AR_add : MethodName := ⟨R_AR, "add", "(II)Z"⟩
abbrev b_AR_subtract : ByteArray := prog_2_method_5_code
def y_AR_subtract : MethodName := ⟨R_AR, "subtract", "(IIZ)V"⟩
abbrev b_AR_isGreater : ByteArray := prog_2_method_6_code
def y_AR_isGreater : MethodName := ⟨R_AR, "isGreater", "(II)Z"⟩
abbrev b_PI_init : ByteArray := prog_3_method_1_code
def y_PI_init : MethodName := ⟨R_PI, "<init>", "(II)V"⟩
abbrev b_PI_filled : ByteArray := prog_3_method_2_code
def y_PI_filled : MethodName := ⟨R_PI, "filled", "()I"⟩
abbrev b_PI_isFull : ByteArray := prog_3_method_3_code
def y_PI_isFull : MethodName := ⟨R_PI, "isFull", "()Z"⟩
abbrev b_PI_holds : ByteArray := prog_3_method_4_code
def y_PI_holds : MethodName := ⟨R_PI, "holds", "(II)Z"⟩
abbrev b_PI_character : ByteArray := prog_3_method_5_code
def y_PI_character : MethodName := ⟨R_PI, "character", "(II)I"⟩
abbrev b_PI_write : ByteArray := prog_3_method_6_code
def y_PI_write : MethodName := ⟨R_PI, "write", "(II)V"⟩
abbrev b_PI_close : ByteArray := prog_3_method_7_code
def y_PI_close : MethodName := ⟨R_PI, "close", "()V"⟩
abbrev b_PI_copy : ByteArray := prog_3_method_8_code
def y_PI_copy : MethodName := ⟨R_PI, "copy", "(LCharMachine$Store;I)V"⟩
abbrev b_PR_init : ByteArray := prog_4_method_1_code
def y_PR_init : MethodName := ⟨R_PR, "<init>", "(LCharMachine$Store;LCharMachine$Pile;LCharMachine$Pile;LCharMachine$Pile;)V"⟩
abbrev b_PR_cardsToRead : ByteArray := prog_4_method_2_code
def y_PR_cardsToRead : MethodName := ⟨R_PR, "cardsToRead", "()I"⟩
abbrev b_PR_step : ByteArray := prog_4_method_3_code
def y_PR_step : MethodName := ⟨R_PR, "step", "()I"⟩
abbrev b_PR_instructionLength : ByteArray := prog_4_method_4_code
def y_PR_instructionLength : MethodName := ⟨R_PR, "instructionLength", "()I"⟩
abbrev b_PR_allows : ByteArray := prog_4_method_5_code
def y_PR_allows : MethodName := ⟨R_PR, "allows", "(II)Z"⟩
abbrev b_PR_takeAddresses : ByteArray := prog_4_method_6_code
def y_PR_takeAddresses : MethodName := ⟨R_PR, "takeAddresses", "(II)V"⟩
abbrev b_PR_keepsB : ByteArray := prog_4_method_7_code
def y_PR_keepsB : MethodName := ⟨R_PR, "keepsB", "(I)Z"⟩
abbrev b_PR_perform : ByteArray := prog_4_method_8_code
def y_PR_perform : MethodName := ⟨R_PR, "perform", "(III)I"⟩
abbrev b_PR_goThere : ByteArray := prog_4_method_9_code
def y_PR_goThere : MethodName := ⟨R_PR, "goThere", "()V"⟩
abbrev b_PR_modifier : ByteArray := prog_4_method_10_code
def y_PR_modifier : MethodName := ⟨R_PR, "modifier", "()I"⟩
abbrev b_PR_calculate : ByteArray := prog_4_method_11_code
def y_PR_calculate : MethodName := ⟨R_PR, "calculate", "(ZZ)I"⟩
abbrev b_PR_addSigned : ByteArray := prog_4_method_12_code
def y_PR_addSigned : MethodName := ⟨R_PR, "addSigned", "(IZ)V"⟩
abbrev b_PR_move : ByteArray := prog_4_method_13_code
def y_PR_move : MethodName := ⟨R_PR, "move", "()I"⟩
abbrev b_PR_load : ByteArray := prog_4_method_14_code
def y_PR_load : MethodName := ⟨R_PR, "load", "()I"⟩
abbrev b_PR_moveBits : ByteArray := prog_4_method_15_code
def y_PR_moveBits : MethodName := ⟨R_PR, "moveBits", "(I)I"⟩
abbrev b_PR_compare : ByteArray := prog_4_method_16_code
def y_PR_compare : MethodName := ⟨R_PR, "compare", "()I"⟩
abbrev b_PR_orderOf : ByteArray := prog_4_method_17_code
def y_PR_orderOf : MethodName := ⟨R_PR, "orderOf", "(I)I"⟩
abbrev b_PR_rank : ByteArray := prog_4_method_18_code
def y_PR_rank : MethodName := ⟨R_PR, "rank", "(I)I"⟩
abbrev b_PR_changeMarks : ByteArray := prog_4_method_19_code
def y_PR_changeMarks : MethodName := ⟨R_PR, "changeMarks", "(Z)I"⟩
abbrev b_PR_clear : ByteArray := prog_4_method_20_code
def y_PR_clear : MethodName := ⟨R_PR, "clear", "(Z)I"⟩
abbrev b_PR_suppressZeros : ByteArray := prog_4_method_21_code
def y_PR_suppressZeros : MethodName := ⟨R_PR, "suppressZeros", "()I"⟩
abbrev b_PR_isSuppressed : ByteArray := prog_4_method_22_code
def y_PR_isSuppressed : MethodName := ⟨R_PR, "isSuppressed", "(I)Z"⟩
abbrev b_PR_branch : ByteArray := prog_4_method_23_code
def y_PR_branch : MethodName := ⟨R_PR, "branch", "(I)I"⟩
abbrev b_PR_isIndicated : ByteArray := prog_4_method_24_code
def y_PR_isIndicated : MethodName := ⟨R_PR, "isIndicated", "(I)Z"⟩
abbrev b_PR_takeOverflow : ByteArray := prog_4_method_25_code
def y_PR_takeOverflow : MethodName := ⟨R_PR, "takeOverflow", "()Z"⟩
abbrev b_PR_branchByPosition : ByteArray := prog_4_method_26_code
def y_PR_branchByPosition : MethodName := ⟨R_PR, "branchByPosition", "()I"⟩
abbrev b_PR_isAsAsked : ByteArray := prog_4_method_27_code
def y_PR_isAsAsked : MethodName := ⟨R_PR, "isAsAsked", "(II)Z"⟩
abbrev b_PR_readCard : ByteArray := prog_4_method_28_code
def y_PR_readCard : MethodName := ⟨R_PR, "readCard", "(Z)I"⟩
abbrev b_PR_fillRow : ByteArray := prog_4_method_29_code
def y_PR_fillRow : MethodName := ⟨R_PR, "fillRow", "(LCharMachine$Pile;IIZ)I"⟩
abbrev b_PR_endTransfer : ByteArray := prog_4_method_30_code
def y_PR_endTransfer : MethodName := ⟨R_PR, "endTransfer", "(IZ)V"⟩
abbrev b_PR_storeAddress : ByteArray := prog_4_method_31_code
def y_PR_storeAddress : MethodName := ⟨R_PR, "storeAddress", "(I)I"⟩
abbrev b_PR_halt : ByteArray := prog_4_method_32_code
def y_PR_halt : MethodName := ⟨R_PR, "halt", "(Z)I"⟩
abbrev b_ST_init : ByteArray := prog_5_method_1_code
def y_ST_init : MethodName := ⟨R_ST, "<init>", "(I)V"⟩
abbrev b_ST_size : ByteArray := prog_5_method_2_code
def y_ST_size : MethodName := ⟨R_ST, "size", "()I"⟩
abbrev b_ST_has : ByteArray := prog_5_method_3_code
def y_ST_has : MethodName := ⟨R_ST, "has", "(I)Z"⟩
abbrev b_ST_hasSpan : ByteArray := prog_5_method_4_code
def y_ST_hasSpan : MethodName := ⟨R_ST, "hasSpan", "(II)Z"⟩
abbrev b_ST_character : ByteArray := prog_5_method_5_code
def y_ST_character : MethodName := ⟨R_ST, "character", "(I)I"⟩
abbrev b_ST_hasMark : ByteArray := prog_5_method_6_code
def y_ST_hasMark : MethodName := ⟨R_ST, "hasMark", "(I)Z"⟩
abbrev b_ST_zone : ByteArray := prog_5_method_7_code
def y_ST_zone : MethodName := ⟨R_ST, "zone", "(I)I"⟩
abbrev b_ST_digit : ByteArray := prog_5_method_8_code
def y_ST_digit : MethodName := ⟨R_ST, "digit", "(I)I"⟩
abbrev b_ST_isMinus : ByteArray := prog_5_method_9_code
def y_ST_isMinus : MethodName := ⟨R_ST, "isMinus", "(I)Z"⟩
abbrev b_ST_place : ByteArray := prog_5_method_10_code
def y_ST_place : MethodName := ⟨R_ST, "place", "(IIZ)V"⟩
abbrev b_ST_write : ByteArray := prog_5_method_11_code
def y_ST_write : MethodName := ⟨R_ST, "write", "(II)V"⟩
abbrev b_ST_writeZone : ByteArray := prog_5_method_12_code
def y_ST_writeZone : MethodName := ⟨R_ST, "writeZone", "(II)V"⟩
abbrev b_ST_mark : ByteArray := prog_5_method_13_code
def y_ST_mark : MethodName := ⟨R_ST, "mark", "(IZ)V"⟩
abbrev b_ST_copySpan : ByteArray := prog_5_method_14_code
def y_ST_copySpan : MethodName := ⟨R_ST, "copySpan", "(III)V"⟩
abbrev b_ST_fieldLength1 : ByteArray := prog_5_method_15_code
def y_ST_fieldLength1 : MethodName := ⟨R_ST, "fieldLength", "(I)I"⟩
abbrev b_ST_fieldLength2 : ByteArray := prog_5_method_16_code
def y_ST_fieldLength2 : MethodName := ⟨R_ST, "fieldLength", "(II)I"⟩
abbrev b_ST_commonLength : ByteArray := prog_5_method_17_code
def y_ST_commonLength : MethodName := ⟨R_ST, "commonLength", "(II)I"⟩
abbrev b_ST_address : ByteArray := prog_5_method_18_code
def y_ST_address : MethodName := ⟨R_ST, "address", "(I)I"⟩
abbrev b_ST_writeAddress : ByteArray := prog_5_method_19_code
def y_ST_writeAddress : MethodName := ⟨R_ST, "writeAddress", "(II)V"⟩
abbrev b_ST_markCount : ByteArray := prog_5_method_20_code
def y_ST_markCount : MethodName := ⟨R_ST, "markCount", "()I"⟩
abbrev b_CM_init : ByteArray := prog_1_method_1_code
def y_CM_init : MethodName := ⟨R_CM, "<init>", "(I)V"⟩
abbrev b_CM_set : ByteArray := prog_1_method_2_code
def y_CM_set : MethodName := ⟨R_CM, "set", "(IIZ)Z"⟩
abbrev b_CM_put : ByteArray := prog_1_method_3_code
def y_CM_put : MethodName := ⟨R_CM, "put", "(IJI)I"⟩
abbrev b_CM_column : ByteArray := prog_1_method_4_code
def y_CM_column : MethodName := ⟨R_CM, "column", "(II)Z"⟩
abbrev b_CM_card : ByteArray := prog_1_method_5_code
def y_CM_card : MethodName := ⟨R_CM, "card", "()I"⟩
abbrev b_CM_start : ByteArray := prog_1_method_6_code
def y_CM_start : MethodName := ⟨R_CM, "start", "(I)Z"⟩
abbrev b_CM_run : ByteArray := prog_1_method_7_code
def y_CM_run : MethodName := ⟨R_CM, "run", "(I)I"⟩
abbrev b_CM_at : ByteArray := prog_1_method_8_code
def y_CM_at : MethodName := ⟨R_CM, "at", "(I)I"⟩
abbrev b_CM_isMarked : ByteArray := prog_1_method_9_code
def y_CM_isMarked : MethodName := ⟨R_CM, "isMarked", "(I)Z"⟩
abbrev b_CM_state : ByteArray := prog_1_method_10_code
def y_CM_state : MethodName := ⟨R_CM, "state", "(I)I"⟩
abbrev b_CM_printed : ByteArray := prog_1_method_11_code
def y_CM_printed : MethodName := ⟨R_CM, "printed", "(II)I"⟩
abbrev b_CM_punched : ByteArray := prog_1_method_12_code
def y_CM_punched : MethodName := ⟨R_CM, "punched", "(II)I"⟩
abbrev b_CM_number : ByteArray := prog_1_method_13_code
def y_CM_number : MethodName := ⟨R_CM, "number", "(I)J"⟩
abbrev b_CM_count : ByteArray := prog_1_method_14_code
def y_CM_count : MethodName := ⟨R_CM, "count", "(I)I"⟩
abbrev b_CM_isCharacter : ByteArray := prog_1_method_15_code
def y_CM_isCharacter : MethodName := ⟨R_CM, "isCharacter", "(I)Z"⟩
abbrev b_CM_byteOf : ByteArray := prog_1_method_16_code
def y_CM_byteOf : MethodName := ⟨R_CM, "byteOf", "(JI)I"⟩
abbrev b_CM_charactersIn : ByteArray := prog_1_method_17_code
def y_CM_charactersIn : MethodName := ⟨R_CM, "charactersIn", "(J)I"⟩
abbrev b_CM_written : ByteArray := prog_1_method_18_code
def y_CM_written : MethodName := ⟨R_CM, "written", "(I)I"⟩
abbrev b_CM_signZone : ByteArray := prog_1_method_19_code
def y_CM_signZone : MethodName := ⟨R_CM, "signZone", "(Z)I"⟩
abbrev b_MO_init : ByteArray := prog_7_method_1_code
def y_MO_init : MethodName := ⟨R_MO, "<init>", "(I)V"⟩
abbrev b_MO_thrown : ByteArray := prog_7_method_2_code
def y_MO_thrown : MethodName := ⟨R_MO, "thrown", "()I"⟩
abbrev b_MO_is : ByteArray := prog_7_method_3_code
def y_MO_is : MethodName := ⟨R_MO, "is", "(I)Z"⟩
abbrev b_MO_isCharacter : ByteArray := prog_7_method_4_code
def y_MO_isCharacter : MethodName := ⟨R_MO, "isCharacter", "(I)Z"⟩
abbrev b_MO_zone : ByteArray := prog_7_method_5_code
def y_MO_zone : MethodName := ⟨R_MO, "zone", "(I)I"⟩
abbrev b_MO_value : ByteArray := prog_7_method_6_code
def y_MO_value : MethodName := ⟨R_MO, "value", "(I)I"⟩
abbrev b_MO_digit : ByteArray := prog_7_method_7_code
def y_MO_digit : MethodName := ⟨R_MO, "digit", "(I)I"⟩
abbrev b_MO_set : ByteArray := prog_7_method_8_code
def y_MO_set : MethodName := ⟨R_MO, "set", "(IIZ)Z"⟩
abbrev b_MO_put : ByteArray := prog_7_method_9_code
def y_MO_put : MethodName := ⟨R_MO, "put", "(IJI)I"⟩
abbrev b_MO_column : ByteArray := prog_7_method_10_code
def y_MO_column : MethodName := ⟨R_MO, "column", "(II)Z"⟩
abbrev b_MO_card : ByteArray := prog_7_method_11_code
def y_MO_card : MethodName := ⟨R_MO, "card", "()I"⟩
abbrev b_MO_start : ByteArray := prog_7_method_12_code
def y_MO_start : MethodName := ⟨R_MO, "start", "(I)Z"⟩
abbrev b_MO_field : ByteArray := prog_7_method_13_code
def y_MO_field : MethodName := ⟨R_MO, "field", "(II)I"⟩
abbrev b_MO_isMinus : ByteArray := prog_7_method_14_code
def y_MO_isMinus : MethodName := ⟨R_MO, "isMinus", "(I)Z"⟩
abbrev b_MO_readDigits : ByteArray := prog_7_method_15_code
def y_MO_readDigits : MethodName := ⟨R_MO, "readDigits", "([IIII)V"⟩
abbrev b_MO_writeDigits : ByteArray := prog_7_method_16_code
def y_MO_writeDigits : MethodName := ⟨R_MO, "writeDigits", "(II)V"⟩
abbrev b_MO_isMore : ByteArray := prog_7_method_17_code
def y_MO_isMore : MethodName := ⟨R_MO, "isMore", "(I)Z"⟩
abbrev b_MO_add : ByteArray := prog_7_method_18_code
def y_MO_add : MethodName := ⟨R_MO, "add", "()I"⟩
abbrev b_MO_reset : ByteArray := prog_7_method_19_code
def y_MO_reset : MethodName := ⟨R_MO, "reset", "()I"⟩
abbrev b_MO_both : ByteArray := prog_7_method_20_code
def y_MO_both : MethodName := ⟨R_MO, "both", "()I"⟩
abbrev b_MO_move : ByteArray := prog_7_method_21_code
def y_MO_move : MethodName := ⟨R_MO, "move", "()I"⟩
abbrev b_MO_load : ByteArray := prog_7_method_22_code
def y_MO_load : MethodName := ⟨R_MO, "load", "()I"⟩
abbrev b_MO_part : ByteArray := prog_7_method_23_code
def y_MO_part : MethodName := ⟨R_MO, "part", "()I"⟩
abbrev b_MO_rank : ByteArray := prog_7_method_24_code
def y_MO_rank : MethodName := ⟨R_MO, "rank", "(I)I"⟩
abbrev b_MO_compare : ByteArray := prog_7_method_25_code
def y_MO_compare : MethodName := ⟨R_MO, "compare", "()I"⟩
abbrev b_MO_marks : ByteArray := prog_7_method_26_code
def y_MO_marks : MethodName := ⟨R_MO, "marks", "()I"⟩
abbrev b_MO_go : ByteArray := prog_7_method_27_code
def y_MO_go : MethodName := ⟨R_MO, "go", "()V"⟩
abbrev b_MO_clear : ByteArray := prog_7_method_28_code
def y_MO_clear : MethodName := ⟨R_MO, "clear", "()I"⟩
abbrev b_MO_edit : ByteArray := prog_7_method_29_code
def y_MO_edit : MethodName := ⟨R_MO, "edit", "()I"⟩
abbrev b_MO_modifier : ByteArray := prog_7_method_30_code
def y_MO_modifier : MethodName := ⟨R_MO, "modifier", "()I"⟩
abbrev b_MO_branch : ByteArray := prog_7_method_31_code
def y_MO_branch : MethodName := ⟨R_MO, "branch", "()I"⟩
abbrev b_MO_branchMark : ByteArray := prog_7_method_32_code
def y_MO_branchMark : MethodName := ⟨R_MO, "branchMark", "()I"⟩
abbrev b_MO_readCard : ByteArray := prog_7_method_33_code
def y_MO_readCard : MethodName := ⟨R_MO, "readCard", "()I"⟩
abbrev b_MO_print : ByteArray := prog_7_method_34_code
def y_MO_print : MethodName := ⟨R_MO, "print", "()I"⟩
abbrev b_MO_punchCard : ByteArray := prog_7_method_35_code
def y_MO_punchCard : MethodName := ⟨R_MO, "punchCard", "()I"⟩
abbrev b_MO_device : ByteArray := prog_7_method_36_code
def y_MO_device : MethodName := ⟨R_MO, "device", "()I"⟩
abbrev b_MO_keepRegister : ByteArray := prog_7_method_37_code
def y_MO_keepRegister : MethodName := ⟨R_MO, "keepRegister", "()I"⟩
abbrev b_MO_address : ByteArray := prog_7_method_38_code
def y_MO_address : MethodName := ⟨R_MO, "address", "(I)I"⟩
abbrev b_MO_isArithmetic : ByteArray := prog_7_method_39_code
def y_MO_isArithmetic : MethodName := ⟨R_MO, "isArithmetic", "(I)Z"⟩
abbrev b_MO_may : ByteArray := prog_7_method_40_code
def y_MO_may : MethodName := ⟨R_MO, "may", "(II)Z"⟩
abbrev b_MO_fetch : ByteArray := prog_7_method_41_code
def y_MO_fetch : MethodName := ⟨R_MO, "fetch", "()I"⟩
abbrev b_MO_stopHere : ByteArray := prog_7_method_42_code
def y_MO_stopHere : MethodName := ⟨R_MO, "stopHere", "()I"⟩
abbrev b_MO_execute : ByteArray := prog_7_method_43_code
def y_MO_execute : MethodName := ⟨R_MO, "execute", "()I"⟩
abbrev b_MO_run : ByteArray := prog_7_method_44_code
def y_MO_run : MethodName := ⟨R_MO, "run", "(I)I"⟩
abbrev b_MO_at : ByteArray := prog_7_method_45_code
def y_MO_at : MethodName := ⟨R_MO, "at", "(I)I"⟩
abbrev b_MO_isMarked : ByteArray := prog_7_method_46_code
def y_MO_isMarked : MethodName := ⟨R_MO, "isMarked", "(I)Z"⟩
abbrev b_MO_state : ByteArray := prog_7_method_47_code
def y_MO_state : MethodName := ⟨R_MO, "state", "(I)I"⟩
abbrev b_MO_printed : ByteArray := prog_7_method_48_code
def y_MO_printed : MethodName := ⟨R_MO, "printed", "(II)I"⟩
abbrev b_MO_punched : ByteArray := prog_7_method_49_code
def y_MO_punched : MethodName := ⟨R_MO, "punched", "(II)I"⟩
abbrev b_MO_number : ByteArray := prog_7_method_50_code
def y_MO_number : MethodName := ⟨R_MO, "number", "(I)J"⟩
abbrev b_MO_count : ByteArray := prog_7_method_51_code
def y_MO_count : MethodName := ⟨R_MO, "count", "(I)I"⟩
abbrev b_LA_cell : ByteArray := method_2_code
def y_LA_cell : MethodName := ⟨R_LA, "cell", "([II)I"⟩
abbrev b_LA_put : ByteArray := method_3_code
def y_LA_put : MethodName := ⟨R_LA, "put", "(LCharMachine;IJI[J)I"⟩
abbrev b_LA_card : ByteArray := method_4_code
def y_LA_card : MethodName := ⟨R_LA, "card", "(LCharMachine;[J)I"⟩
abbrev b_LA_run : ByteArray := method_5_code
def y_LA_run : MethodName := ⟨R_LA, "run", "(LCharMachine;I[J)I"⟩
abbrev b_LA_at : ByteArray := method_6_code
def y_LA_at : MethodName := ⟨R_LA, "at", "(LCharMachine;I[J)I"⟩
abbrev b_LA_isMarked : ByteArray := method_7_code
def y_LA_isMarked : MethodName := ⟨R_LA, "isMarked", "(LCharMachine;I[J)I"⟩
abbrev b_LA_printed : ByteArray := method_8_code
def y_LA_printed : MethodName := ⟨R_LA, "printed", "(LCharMachine;II[J)I"⟩
abbrev b_LA_punched : ByteArray := method_9_code
def y_LA_punched : MethodName := ⟨R_LA, "punched", "(LCharMachine;II[J)I"⟩
abbrev b_LA_number : ByteArray := method_10_code
def y_LA_number : MethodName := ⟨R_LA, "number", "(LCharMachine;I[J)I"⟩
end
section
theorem d_AR_init_0 : decode b_AR_init 0 = .ok (.aload_n 0, 1) := by decide +kernel
theorem d_AR_init_1 : decode b_AR_init 1 = .ok (.invokespecial 1, 3) := by decide +kernel
theorem d_AR_init_4 : decode b_AR_init 4 = .ok (.aload_n 0, 1) := by decide +kernel
theorem d_AR_init_5 : decode b_AR_init 5 = .ok (.aload_n 1, 1) := by decide +kernel
theorem d_AR_init_6 : decode b_AR_init 6 = .ok (.putfield 7, 3) := by decide +kernel
theorem d_AR_init_9 : decode b_AR_init 9 = .ok (.aload_n 0, 1) := by decide +kernel
theorem d_AR_init_10 : decode b_AR_init 10 = .ok (.aload_n 1, 1) := by decide +kernel
theorem d_AR_init_11 : decode b_AR_init 11 = .ok (.invokevirtual 13, 3) := by decide +kernel
theorem d_AR_init_14 : decode b_AR_init 14 = .ok (.newarray .int, 2) := by decide +kernel
theorem d_AR_init_16 : decode b_AR_init 16 = .ok (.putfield 19, 3) := by decide +kernel
theorem d_AR_init_19 : decode b_AR_init 19 = .ok (.return_, 1) := by decide +kernel
theorem d_AR_readDigits_0 : decode b_AR_readDigits 0 = .ok (.iconst 0, 1) := by decide +kernel
theorem d_AR_readDigits_1 : decode b_AR_readDigits 1 = .ok (.istore 4, 2) := by decide +kernel
theorem d_AR_readDigits_3 : decode b_AR_readDigits 3 = .ok (.iload 4, 2) := by decide +kernel
theorem d_AR_readDigits_5 : decode b_AR_readDigits 5 = .ok (.iload_n 3, 1) := by decide +kernel
theorem d_AR_readDigits_6 : decode b_AR_readDigits 6 = .ok (.if_icmp .ge 37, 3) := by decide +kernel
theorem d_AR_readDigits_9 : decode b_AR_readDigits 9 = .ok (.aload_n 0, 1) := by decide +kernel
theorem d_AR_readDigits_10 : decode b_AR_readDigits 10 = .ok (.getfield 19, 3) := by decide +kernel
theorem d_AR_readDigits_13 : decode b_AR_readDigits 13 = .ok (.iload 4, 2) := by decide +kernel
theorem d_AR_readDigits_15 : decode b_AR_readDigits 15 = .ok (.iload 4, 2) := by decide +kernel
theorem d_AR_readDigits_17 : decode b_AR_readDigits 17 = .ok (.iload_n 2, 1) := by decide +kernel
theorem d_AR_readDigits_18 : decode b_AR_readDigits 18 = .ok (.if_icmp .ge 17, 3) := by decide +kernel
theorem d_AR_readDigits_21 : decode b_AR_readDigits 21 = .ok (.aload_n 0, 1) := by decide +kernel
theorem d_AR_readDigits_22 : decode b_AR_readDigits 22 = .ok (.getfield 7, 3) := by decide +kernel
theorem d_AR_readDigits_25 : decode b_AR_readDigits 25 = .ok (.iload_n 1, 1) := by decide +kernel
theorem d_AR_readDigits_26 : decode b_AR_readDigits 26 = .ok (.iload 4, 2) := by decide +kernel
theorem d_AR_readDigits_28 : decode b_AR_readDigits 28 = .ok (.isub, 1) := by decide +kernel
theorem d_AR_readDigits_29 : decode b_AR_readDigits 29 = .ok (.invokevirtual 23, 3) := by decide +kernel
theorem d_AR_readDigits_32 : decode b_AR_readDigits 32 = .ok (.goto 4, 3) := by decide +kernel
theorem d_AR_readDigits_35 : decode b_AR_readDigits 35 = .ok (.iconst 0, 1) := by decide +kernel
theorem d_AR_readDigits_36 : decode b_AR_readDigits 36 = .ok (.iastore, 1) := by decide +kernel
theorem d_AR_readDigits_37 : decode b_AR_readDigits 37 = .ok (.iinc 4 1, 3) := by decide +kernel
theorem d_AR_readDigits_40 : decode b_AR_readDigits 40 = .ok (.goto (-37), 3) := by decide +kernel
theorem d_AR_readDigits_43 : decode b_AR_readDigits 43 = .ok (.return_, 1) := by decide +kernel
theorem d_AR_replace_0 : decode b_AR_replace 0 = .ok (.iconst 0, 1) := by decide +kernel
theorem d_AR_replace_1 : decode b_AR_replace 1 = .ok (.istore_n 3, 1) := by decide +kernel
theorem d_AR_replace_2 : decode b_AR_replace 2 = .ok (.iload_n 3, 1) := by decide +kernel
theorem d_AR_replace_3 : decode b_AR_replace 3 = .ok (.iload_n 2, 1) := by decide +kernel
theorem d_AR_replace_4 : decode b_AR_replace 4 = .ok (.if_icmp .ge 28, 3) := by decide +kernel
theorem d_AR_replace_7 : decode b_AR_replace 7 = .ok (.aload_n 0, 1) := by decide +kernel
theorem d_AR_replace_8 : decode b_AR_replace 8 = .ok (.getfield 7, 3) := by decide +kernel
theorem d_AR_replace_11 : decode b_AR_replace 11 = .ok (.iload_n 1, 1) := by decide +kernel
theorem d_AR_replace_12 : decode b_AR_replace 12 = .ok (.iload_n 3, 1) := by decide +kernel
theorem d_AR_replace_13 : decode b_AR_replace 13 = .ok (.isub, 1) := by decide +kernel
theorem d_AR_replace_14 : decode b_AR_replace 14 = .ok (.aload_n 0, 1) := by decide +kernel
theorem d_AR_replace_15 : decode b_AR_replace 15 = .ok (.getfield 19, 3) := by decide +kernel
theorem d_AR_replace_18 : decode b_AR_replace 18 = .ok (.iload_n 3, 1) := by decide +kernel
theorem d_AR_replace_19 : decode b_AR_replace 19 = .ok (.iaload, 1) := by decide +kernel
theorem d_AR_replace_20 : decode b_AR_replace 20 = .ok (.invokestatic 27, 3) := by decide +kernel
theorem d_AR_replace_23 : decode b_AR_replace 23 = .ok (.invokevirtual 32, 3) := by decide +kernel
theorem d_AR_replace_26 : decode b_AR_replace 26 = .ok (.iinc 3 1, 3) := by decide +kernel
theorem d_AR_replace_29 : decode b_AR_replace 29 = .ok (.goto (-27), 3) := by decide +kernel
theorem d_AR_replace_32 : decode b_AR_replace 32 = .ok (.return_, 1) := by decide +kernel
theorem d_AR_add_0 : decode b_AR_add 0 = .ok (.aload_n 0, 1) := by decide +kernel
theorem d_AR_add_1 : decode b_AR_add 1 = .ok (.getfield 7, 3) := by decide +kernel
theorem d_AR_add_4 : decode b_AR_add 4 = .ok (.iload_n 1, 1) := by decide +kernel
theorem d_AR_add_5 : decode b_AR_add 5 = .ok (.invokevirtual 36, 3) := by decide +kernel
theorem d_AR_add_8 : decode b_AR_add 8 = .ok (.istore_n 3, 1) := by decide +kernel
theorem d_AR_add_9 : decode b_AR_add 9 = .ok (.iconst 0, 1) := by decide +kernel
theorem d_AR_add_10 : decode b_AR_add 10 = .ok (.istore 4, 2) := by decide +kernel
theorem d_AR_add_12 : decode b_AR_add 12 = .ok (.iconst 0, 1) := by decide +kernel
theorem d_AR_add_13 : decode b_AR_add 13 = .ok (.istore 5, 2) := by decide +kernel
theorem d_AR_add_15 : decode b_AR_add 15 = .ok (.iload 5, 2) := by decide +kernel
theorem d_AR_add_17 : decode b_AR_add 17 = .ok (.iload_n 2, 1) := by decide +kernel
theorem d_AR_add_18 : decode b_AR_add 18 = .ok (.if_icmp .ge 70, 3) := by decide +kernel
theorem d_AR_add_21 : decode b_AR_add 21 = .ok (.aload_n 0, 1) := by decide +kernel
theorem d_AR_add_22 : decode b_AR_add 22 = .ok (.getfield 7, 3) := by decide +kernel
theorem d_AR_add_25 : decode b_AR_add 25 = .ok (.iload_n 1, 1) := by decide +kernel
theorem d_AR_add_26 : decode b_AR_add 26 = .ok (.iload 5, 2) := by decide +kernel
theorem d_AR_add_28 : decode b_AR_add 28 = .ok (.isub, 1) := by decide +kernel
theorem d_AR_add_29 : decode b_AR_add 29 = .ok (.invokevirtual 23, 3) := by decide +kernel
theorem d_AR_add_32 : decode b_AR_add 32 = .ok (.aload_n 0, 1) := by decide +kernel
theorem d_AR_add_33 : decode b_AR_add 33 = .ok (.getfield 19, 3) := by decide +kernel
theorem d_AR_add_36 : decode b_AR_add 36 = .ok (.iload 5, 2) := by decide +kernel
theorem d_AR_add_38 : decode b_AR_add 38 = .ok (.iaload, 1) := by decide +kernel
theorem d_AR_add_39 : decode b_AR_add 39 = .ok (.iadd, 1) := by decide +kernel
theorem d_AR_add_40 : decode b_AR_add 40 = .ok (.iload 4, 2) := by decide +kernel
theorem d_AR_add_42 : decode b_AR_add 42 = .ok (.iadd, 1) := by decide +kernel
theorem d_AR_add_43 : decode b_AR_add 43 = .ok (.istore 6, 2) := by decide +kernel
theorem d_AR_add_45 : decode b_AR_add 45 = .ok (.iload 6, 2) := by decide +kernel
theorem d_AR_add_47 : decode b_AR_add 47 = .ok (.bipush 10, 2) := by decide +kernel
theorem d_AR_add_49 : decode b_AR_add 49 = .ok (.idiv, 1) := by decide +kernel
theorem d_AR_add_50 : decode b_AR_add 50 = .ok (.istore 4, 2) := by decide +kernel
theorem d_AR_add_52 : decode b_AR_add 52 = .ok (.aload_n 0, 1) := by decide +kernel
theorem d_AR_add_53 : decode b_AR_add 53 = .ok (.getfield 7, 3) := by decide +kernel
theorem d_AR_add_56 : decode b_AR_add 56 = .ok (.iload_n 1, 1) := by decide +kernel
theorem d_AR_add_57 : decode b_AR_add 57 = .ok (.iload 5, 2) := by decide +kernel
theorem d_AR_add_59 : decode b_AR_add 59 = .ok (.isub, 1) := by decide +kernel
theorem d_AR_add_60 : decode b_AR_add 60 = .ok (.iload 6, 2) := by decide +kernel
theorem d_AR_add_62 : decode b_AR_add 62 = .ok (.bipush 10, 2) := by decide +kernel
theorem d_AR_add_64 : decode b_AR_add 64 = .ok (.irem, 1) := by decide +kernel
theorem d_AR_add_65 : decode b_AR_add 65 = .ok (.invokestatic 27, 3) := by decide +kernel
theorem d_AR_add_68 : decode b_AR_add 68 = .ok (.iload 5, 2) := by decide +kernel
theorem d_AR_add_70 : decode b_AR_add 70 = .ok (.ifCond .ne 7, 3) := by decide +kernel
theorem d_AR_add_73 : decode b_AR_add 73 = .ok (.iload_n 3, 1) := by decide +kernel
theorem d_AR_add_74 : decode b_AR_add 74 = .ok (.goto 4, 3) := by decide +kernel
theorem d_AR_add_77 : decode b_AR_add 77 = .ok (.iconst 0, 1) := by decide +kernel
theorem d_AR_add_78 : decode b_AR_add 78 = .ok (.ior, 1) := by decide +kernel
theorem d_AR_add_79 : decode b_AR_add 79 = .ok (.invokevirtual 32, 3) := by decide +kernel
theorem d_AR_add_82 : decode b_AR_add 82 = .ok (.iinc 5 1, 3) := by decide +kernel
theorem d_AR_add_85 : decode b_AR_add 85 = .ok (.goto (-70), 3) := by decide +kernel
theorem d_AR_add_88 : decode b_AR_add 88 = .ok (.iload 4, 2) := by decide +kernel
theorem d_AR_add_90 : decode b_AR_add 90 = .ok (.ifCond .le 7, 3) := by decide +kernel
theorem d_AR_add_93 : decode b_AR_add 93 = .ok (.iconst 1, 1) := by decide +kernel
theorem d_AR_add_94 : decode b_AR_add 94 = .ok (.goto 4, 3) := by decide +kernel
theorem d_AR_add_97 : decode b_AR_add 97 = .ok (.iconst 0, 1) := by decide +kernel
theorem d_AR_add_98 : decode b_AR_add 98 = .ok (.ireturn, 1) := by decide +kernel
theorem d_AR_subtract_0 : decode b_AR_subtract 0 = .ok (.iconst 0, 1) := by decide +kernel
theorem d_AR_subtract_1 : decode b_AR_subtract 1 = .ok (.istore 4, 2) := by decide +kernel
theorem d_AR_subtract_3 : decode b_AR_subtract 3 = .ok (.iconst 0, 1) := by decide +kernel
theorem d_AR_subtract_4 : decode b_AR_subtract 4 = .ok (.istore 5, 2) := by decide +kernel
theorem d_AR_subtract_6 : decode b_AR_subtract 6 = .ok (.iload 5, 2) := by decide +kernel
theorem d_AR_subtract_8 : decode b_AR_subtract 8 = .ok (.iload_n 2, 1) := by decide +kernel
theorem d_AR_subtract_9 : decode b_AR_subtract 9 = .ok (.if_icmp .ge 88, 3) := by decide +kernel
theorem d_AR_subtract_12 : decode b_AR_subtract 12 = .ok (.aload_n 0, 1) := by decide +kernel
theorem d_AR_subtract_13 : decode b_AR_subtract 13 = .ok (.getfield 7, 3) := by decide +kernel
theorem d_AR_subtract_16 : decode b_AR_subtract 16 = .ok (.iload_n 1, 1) := by decide +kernel
theorem d_AR_subtract_17 : decode b_AR_subtract 17 = .ok (.iload 5, 2) := by decide +kernel
theorem d_AR_subtract_19 : decode b_AR_subtract 19 = .ok (.isub, 1) := by decide +kernel
theorem d_AR_subtract_20 : decode b_AR_subtract 20 = .ok (.invokevirtual 23, 3) := by decide +kernel
theorem d_AR_subtract_23 : decode b_AR_subtract 23 = .ok (.istore 6, 2) := by decide +kernel
theorem d_AR_subtract_25 : decode b_AR_subtract 25 = .ok (.iload_n 3, 1) := by decide +kernel
theorem d_AR_subtract_26 : decode b_AR_subtract 26 = .ok (.ifCond .eq 16, 3) := by decide +kernel
theorem d_AR_subtract_29 : decode b_AR_subtract 29 = .ok (.aload_n 0, 1) := by decide +kernel
theorem d_AR_subtract_30 : decode b_AR_subtract 30 = .ok (.getfield 19, 3) := by decide +kernel
theorem d_AR_subtract_33 : decode b_AR_subtract 33 = .ok (.iload 5, 2) := by decide +kernel
theorem d_AR_subtract_35 : decode b_AR_subtract 35 = .ok (.iaload, 1) := by decide +kernel
theorem d_AR_subtract_36 : decode b_AR_subtract 36 = .ok (.iload 6, 2) := by decide +kernel
theorem d_AR_subtract_38 : decode b_AR_subtract 38 = .ok (.isub, 1) := by decide +kernel
theorem d_AR_subtract_39 : decode b_AR_subtract 39 = .ok (.goto 13, 3) := by decide +kernel
theorem d_AR_subtract_42 : decode b_AR_subtract 42 = .ok (.iload 6, 2) := by decide +kernel
theorem d_AR_subtract_44 : decode b_AR_subtract 44 = .ok (.aload_n 0, 1) := by decide +kernel
theorem d_AR_subtract_45 : decode b_AR_subtract 45 = .ok (.getfield 19, 3) := by decide +kernel
theorem d_AR_subtract_48 : decode b_AR_subtract 48 = .ok (.iload 5, 2) := by decide +kernel
theorem d_AR_subtract_50 : decode b_AR_subtract 50 = .ok (.iaload, 1) := by decide +kernel
theorem d_AR_subtract_51 : decode b_AR_subtract 51 = .ok (.isub, 1) := by decide +kernel
theorem d_AR_subtract_52 : decode b_AR_subtract 52 = .ok (.iload 4, 2) := by decide +kernel
theorem d_AR_subtract_54 : decode b_AR_subtract 54 = .ok (.isub, 1) := by decide +kernel
theorem d_AR_subtract_55 : decode b_AR_subtract 55 = .ok (.istore 7, 2) := by decide +kernel
theorem d_AR_subtract_57 : decode b_AR_subtract 57 = .ok (.iload 7, 2) := by decide +kernel
theorem d_AR_subtract_59 : decode b_AR_subtract 59 = .ok (.ifCond .ge 7, 3) := by decide +kernel
theorem d_AR_subtract_62 : decode b_AR_subtract 62 = .ok (.iconst 1, 1) := by decide +kernel
theorem d_AR_subtract_63 : decode b_AR_subtract 63 = .ok (.goto 4, 3) := by decide +kernel
theorem d_AR_subtract_66 : decode b_AR_subtract 66 = .ok (.iconst 0, 1) := by decide +kernel
theorem d_AR_subtract_67 : decode b_AR_subtract 67 = .ok (.istore 4, 2) := by decide +kernel
theorem d_AR_subtract_69 : decode b_AR_subtract 69 = .ok (.aload_n 0, 1) := by decide +kernel
theorem d_AR_subtract_70 : decode b_AR_subtract 70 = .ok (.getfield 7, 3) := by decide +kernel
theorem d_AR_subtract_73 : decode b_AR_subtract 73 = .ok (.iload_n 1, 1) := by decide +kernel
theorem d_AR_subtract_74 : decode b_AR_subtract 74 = .ok (.iload 5, 2) := by decide +kernel
theorem d_AR_subtract_76 : decode b_AR_subtract 76 = .ok (.isub, 1) := by decide +kernel
theorem d_AR_subtract_77 : decode b_AR_subtract 77 = .ok (.iload 7, 2) := by decide +kernel
theorem d_AR_subtract_79 : decode b_AR_subtract 79 = .ok (.bipush 10, 2) := by decide +kernel
theorem d_AR_subtract_81 : decode b_AR_subtract 81 = .ok (.iload 4, 2) := by decide +kernel
theorem d_AR_subtract_83 : decode b_AR_subtract 83 = .ok (.imul, 1) := by decide +kernel
theorem d_AR_subtract_84 : decode b_AR_subtract 84 = .ok (.iadd, 1) := by decide +kernel
theorem d_AR_subtract_85 : decode b_AR_subtract 85 = .ok (.invokestatic 27, 3) := by decide +kernel
theorem d_AR_subtract_88 : decode b_AR_subtract 88 = .ok (.invokevirtual 32, 3) := by decide +kernel
theorem d_AR_subtract_91 : decode b_AR_subtract 91 = .ok (.iinc 5 1, 3) := by decide +kernel
theorem d_AR_subtract_94 : decode b_AR_subtract 94 = .ok (.goto (-88), 3) := by decide +kernel
theorem d_AR_subtract_97 : decode b_AR_subtract 97 = .ok (.return_, 1) := by decide +kernel
theorem d_AR_isGreater_0 : decode b_AR_isGreater 0 = .ok (.iload_n 2, 1) := by decide +kernel
theorem d_AR_isGreater_1 : decode b_AR_isGreater 1 = .ok (.iconst 1, 1) := by decide +kernel
theorem d_AR_isGreater_2 : decode b_AR_isGreater 2 = .ok (.isub, 1) := by decide +kernel
theorem d_AR_isGreater_3 : decode b_AR_isGreater 3 = .ok (.istore_n 3, 1) := by decide +kernel
theorem d_AR_isGreater_4 : decode b_AR_isGreater 4 = .ok (.iload_n 3, 1) := by decide +kernel
theorem d_AR_isGreater_5 : decode b_AR_isGreater 5 = .ok (.ifCond .lt 44, 3) := by decide +kernel
theorem d_AR_isGreater_8 : decode b_AR_isGreater 8 = .ok (.aload_n 0, 1) := by decide +kernel
theorem d_AR_isGreater_9 : decode b_AR_isGreater 9 = .ok (.getfield 19, 3) := by decide +kernel
theorem d_AR_isGreater_12 : decode b_AR_isGreater 12 = .ok (.iload_n 3, 1) := by decide +kernel
theorem d_AR_isGreater_13 : decode b_AR_isGreater 13 = .ok (.iaload, 1) := by decide +kernel
theorem d_AR_isGreater_14 : decode b_AR_isGreater 14 = .ok (.aload_n 0, 1) := by decide +kernel
theorem d_AR_isGreater_15 : decode b_AR_isGreater 15 = .ok (.getfield 7, 3) := by decide +kernel
theorem d_AR_isGreater_18 : decode b_AR_isGreater 18 = .ok (.iload_n 1, 1) := by decide +kernel
theorem d_AR_isGreater_19 : decode b_AR_isGreater 19 = .ok (.iload_n 3, 1) := by decide +kernel
theorem d_AR_isGreater_20 : decode b_AR_isGreater 20 = .ok (.isub, 1) := by decide +kernel
theorem d_AR_isGreater_21 : decode b_AR_isGreater 21 = .ok (.invokevirtual 23, 3) := by decide +kernel
theorem d_AR_isGreater_24 : decode b_AR_isGreater 24 = .ok (.isub, 1) := by decide +kernel
theorem d_AR_isGreater_25 : decode b_AR_isGreater 25 = .ok (.istore 4, 2) := by decide +kernel
theorem d_AR_isGreater_27 : decode b_AR_isGreater 27 = .ok (.iload 4, 2) := by decide +kernel
theorem d_AR_isGreater_29 : decode b_AR_isGreater 29 = .ok (.ifCond .eq 14, 3) := by decide +kernel
theorem d_AR_isGreater_32 : decode b_AR_isGreater 32 = .ok (.iload 4, 2) := by decide +kernel
theorem d_AR_isGreater_34 : decode b_AR_isGreater 34 = .ok (.ifCond .le 7, 3) := by decide +kernel
theorem d_AR_isGreater_37 : decode b_AR_isGreater 37 = .ok (.iconst 1, 1) := by decide +kernel
theorem d_AR_isGreater_38 : decode b_AR_isGreater 38 = .ok (.goto 4, 3) := by decide +kernel
theorem d_AR_isGreater_41 : decode b_AR_isGreater 41 = .ok (.iconst 0, 1) := by decide +kernel
theorem d_AR_isGreater_42 : decode b_AR_isGreater 42 = .ok (.ireturn, 1) := by decide +kernel
theorem d_AR_isGreater_43 : decode b_AR_isGreater 43 = .ok (.iinc 3 (-1), 3) := by decide +kernel
theorem d_AR_isGreater_46 : decode b_AR_isGreater 46 = .ok (.goto (-42), 3) := by decide +kernel
theorem d_AR_isGreater_49 : decode b_AR_isGreater 49 = .ok (.iconst 0, 1) := by decide +kernel
theorem d_AR_isGreater_50 : decode b_AR_isGreater 50 = .ok (.ireturn, 1) := by decide +kernel
end
section
theorem d_PI_init_0 : decode b_PI_init 0 = .ok (.aload_n 0, 1) := by decide +kernel
theorem d_PI_init_1 : decode b_PI_init 1 = .ok (.invokespecial 1, 3) := by decide +kernel
theorem d_PI_init_4 : decode b_PI_init 4 = .ok (.aload_n 0, 1) := by decide +kernel
theorem d_PI_init_5 : decode b_PI_init 5 = .ok (.iload_n 1, 1) := by decide +kernel
theorem d_PI_init_6 : decode b_PI_init 6 = .ok (.putfield 7, 3) := by decide +kernel
theorem d_PI_init_9 : decode b_PI_init 9 = .ok (.aload_n 0, 1) := by decide +kernel
theorem d_PI_init_10 : decode b_PI_init 10 = .ok (.iload_n 2, 1) := by decide +kernel
theorem d_PI_init_11 : decode b_PI_init 11 = .ok (.putfield 13, 3) := by decide +kernel
theorem d_PI_init_14 : decode b_PI_init 14 = .ok (.aload_n 0, 1) := by decide +kernel
theorem d_PI_init_15 : decode b_PI_init 15 = .ok (.iload_n 1, 1) := by decide +kernel
theorem d_PI_init_16 : decode b_PI_init 16 = .ok (.iconst 1, 1) := by decide +kernel
theorem d_PI_init_17 : decode b_PI_init 17 = .ok (.iadd, 1) := by decide +kernel
theorem d_PI_init_18 : decode b_PI_init 18 = .ok (.iload_n 2, 1) := by decide +kernel
theorem d_PI_init_19 : decode b_PI_init 19 = .ok (.imul, 1) := by decide +kernel
theorem d_PI_init_20 : decode b_PI_init 20 = .ok (.newarray .int, 2) := by decide +kernel
theorem d_PI_init_22 : decode b_PI_init 22 = .ok (.putfield 16, 3) := by decide +kernel
theorem d_PI_init_25 : decode b_PI_init 25 = .ok (.return_, 1) := by decide +kernel
theorem d_PI_filled_0 : decode b_PI_filled 0 = .ok (.aload_n 0, 1) := by decide +kernel
theorem d_PI_filled_1 : decode b_PI_filled 1 = .ok (.getfield 20, 3) := by decide +kernel
theorem d_PI_filled_4 : decode b_PI_filled 4 = .ok (.ireturn, 1) := by decide +kernel
theorem d_PI_isFull_0 : decode b_PI_isFull 0 = .ok (.aload_n 0, 1) := by decide +kernel
theorem d_PI_isFull_1 : decode b_PI_isFull 1 = .ok (.getfield 20, 3) := by decide +kernel
theorem d_PI_isFull_4 : decode b_PI_isFull 4 = .ok (.aload_n 0, 1) := by decide +kernel
theorem d_PI_isFull_5 : decode b_PI_isFull 5 = .ok (.getfield 7, 3) := by decide +kernel
theorem d_PI_isFull_8 : decode b_PI_isFull 8 = .ok (.if_icmp .lt 7, 3) := by decide +kernel
theorem d_PI_isFull_11 : decode b_PI_isFull 11 = .ok (.iconst 1, 1) := by decide +kernel
theorem d_PI_isFull_12 : decode b_PI_isFull 12 = .ok (.goto 4, 3) := by decide +kernel
theorem d_PI_isFull_15 : decode b_PI_isFull 15 = .ok (.iconst 0, 1) := by decide +kernel
theorem d_PI_isFull_16 : decode b_PI_isFull 16 = .ok (.ireturn, 1) := by decide +kernel
theorem d_PI_holds_0 : decode b_PI_holds 0 = .ok (.iload_n 1, 1) := by decide +kernel
theorem d_PI_holds_1 : decode b_PI_holds 1 = .ok (.ifCond .lt 28, 3) := by decide +kernel
theorem d_PI_holds_4 : decode b_PI_holds 4 = .ok (.iload_n 1, 1) := by decide +kernel
theorem d_PI_holds_5 : decode b_PI_holds 5 = .ok (.aload_n 0, 1) := by decide +kernel
theorem d_PI_holds_6 : decode b_PI_holds 6 = .ok (.getfield 20, 3) := by decide +kernel
theorem d_PI_holds_9 : decode b_PI_holds 9 = .ok (.if_icmp .ge 20, 3) := by decide +kernel
theorem d_PI_holds_12 : decode b_PI_holds 12 = .ok (.iload_n 2, 1) := by decide +kernel
theorem d_PI_holds_13 : decode b_PI_holds 13 = .ok (.iconst 1, 1) := by decide +kernel
theorem d_PI_holds_14 : decode b_PI_holds 14 = .ok (.if_icmp .lt 15, 3) := by decide +kernel
theorem d_PI_holds_17 : decode b_PI_holds 17 = .ok (.iload_n 2, 1) := by decide +kernel
theorem d_PI_holds_18 : decode b_PI_holds 18 = .ok (.aload_n 0, 1) := by decide +kernel
theorem d_PI_holds_19 : decode b_PI_holds 19 = .ok (.getfield 13, 3) := by decide +kernel
theorem d_PI_holds_22 : decode b_PI_holds 22 = .ok (.if_icmp .gt 7, 3) := by decide +kernel
theorem d_PI_holds_25 : decode b_PI_holds 25 = .ok (.iconst 1, 1) := by decide +kernel
theorem d_PI_holds_26 : decode b_PI_holds 26 = .ok (.goto 4, 3) := by decide +kernel
theorem d_PI_holds_29 : decode b_PI_holds 29 = .ok (.iconst 0, 1) := by decide +kernel
theorem d_PI_holds_30 : decode b_PI_holds 30 = .ok (.ireturn, 1) := by decide +kernel
theorem d_PI_character_0 : decode b_PI_character 0 = .ok (.aload_n 0, 1) := by decide +kernel
theorem d_PI_character_1 : decode b_PI_character 1 = .ok (.getfield 16, 3) := by decide +kernel
theorem d_PI_character_4 : decode b_PI_character 4 = .ok (.iload_n 1, 1) := by decide +kernel
theorem d_PI_character_5 : decode b_PI_character 5 = .ok (.aload_n 0, 1) := by decide +kernel
theorem d_PI_character_6 : decode b_PI_character 6 = .ok (.getfield 13, 3) := by decide +kernel
theorem d_PI_character_9 : decode b_PI_character 9 = .ok (.imul, 1) := by decide +kernel
theorem d_PI_character_10 : decode b_PI_character 10 = .ok (.iload_n 2, 1) := by decide +kernel
theorem d_PI_character_11 : decode b_PI_character 11 = .ok (.iadd, 1) := by decide +kernel
theorem d_PI_character_12 : decode b_PI_character 12 = .ok (.iconst 1, 1) := by decide +kernel
theorem d_PI_character_13 : decode b_PI_character 13 = .ok (.isub, 1) := by decide +kernel
theorem d_PI_character_14 : decode b_PI_character 14 = .ok (.iaload, 1) := by decide +kernel
theorem d_PI_character_15 : decode b_PI_character 15 = .ok (.ireturn, 1) := by decide +kernel
theorem d_PI_write_0 : decode b_PI_write 0 = .ok (.aload_n 0, 1) := by decide +kernel
theorem d_PI_write_1 : decode b_PI_write 1 = .ok (.getfield 16, 3) := by decide +kernel
theorem d_PI_write_4 : decode b_PI_write 4 = .ok (.aload_n 0, 1) := by decide +kernel
theorem d_PI_write_5 : decode b_PI_write 5 = .ok (.getfield 20, 3) := by decide +kernel
theorem d_PI_write_8 : decode b_PI_write 8 = .ok (.aload_n 0, 1) := by decide +kernel
theorem d_PI_write_9 : decode b_PI_write 9 = .ok (.getfield 13, 3) := by decide +kernel
theorem d_PI_write_12 : decode b_PI_write 12 = .ok (.imul, 1) := by decide +kernel
theorem d_PI_write_13 : decode b_PI_write 13 = .ok (.iload_n 1, 1) := by decide +kernel
theorem d_PI_write_14 : decode b_PI_write 14 = .ok (.iadd, 1) := by decide +kernel
theorem d_PI_write_15 : decode b_PI_write 15 = .ok (.iconst 1, 1) := by decide +kernel
theorem d_PI_write_16 : decode b_PI_write 16 = .ok (.isub, 1) := by decide +kernel
theorem d_PI_write_17 : decode b_PI_write 17 = .ok (.iload_n 2, 1) := by decide +kernel
theorem d_PI_write_18 : decode b_PI_write 18 = .ok (.iastore, 1) := by decide +kernel
theorem d_PI_write_19 : decode b_PI_write 19 = .ok (.return_, 1) := by decide +kernel
theorem d_PI_close_0 : decode b_PI_close 0 = .ok (.aload_n 0, 1) := by decide +kernel
theorem d_PI_close_1 : decode b_PI_close 1 = .ok (.dup, 1) := by decide +kernel
theorem d_PI_close_2 : decode b_PI_close 2 = .ok (.getfield 20, 3) := by decide +kernel
theorem d_PI_close_5 : decode b_PI_close 5 = .ok (.iconst 1, 1) := by decide +kernel
theorem d_PI_close_6 : decode b_PI_close 6 = .ok (.iadd, 1) := by decide +kernel
theorem d_PI_close_7 : decode b_PI_close 7 = .ok (.putfield 20, 3) := by decide +kernel
theorem d_PI_close_10 : decode b_PI_close 10 = .ok (.return_, 1) := by decide +kernel
theorem d_PI_copy_0 : decode b_PI_copy 0 = .ok (.iconst 1, 1) := by decide +kernel
theorem d_PI_copy_1 : decode b_PI_copy 1 = .ok (.istore_n 3, 1) := by decide +kernel
theorem d_PI_copy_2 : decode b_PI_copy 2 = .ok (.iload_n 3, 1) := by decide +kernel
theorem d_PI_copy_3 : decode b_PI_copy 3 = .ok (.aload_n 0, 1) := by decide +kernel
theorem d_PI_copy_4 : decode b_PI_copy 4 = .ok (.getfield 13, 3) := by decide +kernel
theorem d_PI_copy_7 : decode b_PI_copy 7 = .ok (.if_icmp .gt 23, 3) := by decide +kernel
theorem d_PI_copy_10 : decode b_PI_copy 10 = .ok (.aload_n 0, 1) := by decide +kernel
theorem d_PI_copy_11 : decode b_PI_copy 11 = .ok (.iload_n 3, 1) := by decide +kernel
theorem d_PI_copy_12 : decode b_PI_copy 12 = .ok (.aload_n 1, 1) := by decide +kernel
theorem d_PI_copy_13 : decode b_PI_copy 13 = .ok (.iload_n 2, 1) := by decide +kernel
theorem d_PI_copy_14 : decode b_PI_copy 14 = .ok (.iload_n 3, 1) := by decide +kernel
theorem d_PI_copy_15 : decode b_PI_copy 15 = .ok (.iadd, 1) := by decide +kernel
theorem d_PI_copy_16 : decode b_PI_copy 16 = .ok (.iconst 1, 1) := by decide +kernel
theorem d_PI_copy_17 : decode b_PI_copy 17 = .ok (.isub, 1) := by decide +kernel
theorem d_PI_copy_18 : decode b_PI_copy 18 = .ok (.invokevirtual 23, 3) := by decide +kernel
theorem d_PI_copy_21 : decode b_PI_copy 21 = .ok (.invokevirtual 29, 3) := by decide +kernel
theorem d_PI_copy_24 : decode b_PI_copy 24 = .ok (.iinc 3 1, 3) := by decide +kernel
theorem d_PI_copy_27 : decode b_PI_copy 27 = .ok (.goto (-25), 3) := by decide +kernel
theorem d_PI_copy_30 : decode b_PI_copy 30 = .ok (.aload_n 0, 1) := by decide +kernel
theorem d_PI_copy_31 : decode b_PI_copy 31 = .ok (.invokevirtual 33, 3) := by decide +kernel
theorem d_PI_copy_34 : decode b_PI_copy 34 = .ok (.return_, 1) := by decide +kernel
end
section
theorem d_PR_init_0 : decode b_PR_init 0 = .ok (.aload_n 0, 1) := by decide +kernel
theorem d_PR_init_1 : decode b_PR_init 1 = .ok (.invokespecial 3, 3) := by decide +kernel
theorem d_PR_init_4 : decode b_PR_init 4 = .ok (.aload_n 0, 1) := by decide +kernel
theorem d_PR_init_5 : decode b_PR_init 5 = .ok (.aload_n 1, 1) := by decide +kernel
theorem d_PR_init_6 : decode b_PR_init 6 = .ok (.putfield 9, 3) := by decide +kernel
theorem d_PR_init_9 : decode b_PR_init 9 = .ok (.aload_n 0, 1) := by decide +kernel
theorem d_PR_init_10 : decode b_PR_init 10 = .ok (.aload_n 2, 1) := by decide +kernel
theorem d_PR_init_11 : decode b_PR_init 11 = .ok (.putfield 15, 3) := by decide +kernel
theorem d_PR_init_14 : decode b_PR_init 14 = .ok (.aload_n 0, 1) := by decide +kernel
theorem d_PR_init_15 : decode b_PR_init 15 = .ok (.aload_n 3, 1) := by decide +kernel
theorem d_PR_init_16 : decode b_PR_init 16 = .ok (.putfield 19, 3) := by decide +kernel
theorem d_PR_init_19 : decode b_PR_init 19 = .ok (.aload_n 0, 1) := by decide +kernel
theorem d_PR_init_20 : decode b_PR_init 20 = .ok (.aload 4, 2) := by decide +kernel
theorem d_PR_init_22 : decode b_PR_init 22 = .ok (.putfield 22, 3) := by decide +kernel
theorem d_PR_init_25 : decode b_PR_init 25 = .ok (.aload_n 0, 1) := by decide +kernel
theorem d_PR_init_26 : decode b_PR_init 26 = .ok (.new 25, 3) := by decide +kernel
theorem d_PR_init_29 : decode b_PR_init 29 = .ok (.dup, 1) := by decide +kernel
theorem d_PR_init_30 : decode b_PR_init 30 = .ok (.aload_n 1, 1) := by decide +kernel
theorem d_PR_init_31 : decode b_PR_init 31 = .ok (.invokespecial 27, 3) := by decide +kernel
theorem d_PR_init_34 : decode b_PR_init 34 = .ok (.putfield 30, 3) := by decide +kernel
theorem d_PR_init_37 : decode b_PR_init 37 = .ok (.return_, 1) := by decide +kernel
theorem d_PR_cardsToRead_0 : decode b_PR_cardsToRead 0 = .ok (.aload_n 0, 1) := by decide +kernel
theorem d_PR_cardsToRead_1 : decode b_PR_cardsToRead 1 = .ok (.getfield 15, 3) := by decide +kernel
theorem d_PR_cardsToRead_4 : decode b_PR_cardsToRead 4 = .ok (.invokevirtual 34, 3) := by decide +kernel
theorem d_PR_cardsToRead_7 : decode b_PR_cardsToRead 7 = .ok (.aload_n 0, 1) := by decide +kernel
theorem d_PR_cardsToRead_8 : decode b_PR_cardsToRead 8 = .ok (.getfield 40, 3) := by decide +kernel
theorem d_PR_cardsToRead_11 : decode b_PR_cardsToRead 11 = .ok (.isub, 1) := by decide +kernel
theorem d_PR_cardsToRead_12 : decode b_PR_cardsToRead 12 = .ok (.ireturn, 1) := by decide +kernel
theorem d_PR_step_0 : decode b_PR_step 0 = .ok (.aload_n 0, 1) := by decide +kernel
theorem d_PR_step_1 : decode b_PR_step 1 = .ok (.getfield 9, 3) := by decide +kernel
theorem d_PR_step_4 : decode b_PR_step 4 = .ok (.aload_n 0, 1) := by decide +kernel
theorem d_PR_step_5 : decode b_PR_step 5 = .ok (.getfield 44, 3) := by decide +kernel
theorem d_PR_step_8 : decode b_PR_step 8 = .ok (.invokevirtual 47, 3) := by decide +kernel
theorem d_PR_step_11 : decode b_PR_step 11 = .ok (.ifCond .ne 5, 3) := by decide +kernel
theorem d_PR_step_14 : decode b_PR_step 14 = .ok (.iconst 2, 1) := by decide +kernel
theorem d_PR_step_15 : decode b_PR_step 15 = .ok (.ireturn, 1) := by decide +kernel
theorem d_PR_step_16 : decode b_PR_step 16 = .ok (.aload_n 0, 1) := by decide +kernel
theorem d_PR_step_17 : decode b_PR_step 17 = .ok (.getfield 9, 3) := by decide +kernel
theorem d_PR_step_20 : decode b_PR_step 20 = .ok (.aload_n 0, 1) := by decide +kernel
theorem d_PR_step_21 : decode b_PR_step 21 = .ok (.getfield 44, 3) := by decide +kernel
theorem d_PR_step_24 : decode b_PR_step 24 = .ok (.invokevirtual 53, 3) := by decide +kernel
theorem d_PR_step_27 : decode b_PR_step 27 = .ok (.ifCond .ne 5, 3) := by decide +kernel
theorem d_PR_step_30 : decode b_PR_step 30 = .ok (.iconst 1, 1) := by decide +kernel
theorem d_PR_step_31 : decode b_PR_step 31 = .ok (.ireturn, 1) := by decide +kernel
theorem d_PR_step_32 : decode b_PR_step 32 = .ok (.aload_n 0, 1) := by decide +kernel
theorem d_PR_step_33 : decode b_PR_step 33 = .ok (.getfield 9, 3) := by decide +kernel
theorem d_PR_step_36 : decode b_PR_step 36 = .ok (.aload_n 0, 1) := by decide +kernel
theorem d_PR_step_37 : decode b_PR_step 37 = .ok (.getfield 44, 3) := by decide +kernel
theorem d_PR_step_40 : decode b_PR_step 40 = .ok (.invokevirtual 56, 3) := by decide +kernel
theorem d_PR_step_43 : decode b_PR_step 43 = .ok (.istore_n 1, 1) := by decide +kernel
theorem d_PR_step_44 : decode b_PR_step 44 = .ok (.aload_n 0, 1) := by decide +kernel
theorem d_PR_step_45 : decode b_PR_step 45 = .ok (.invokevirtual 60, 3) := by decide +kernel
theorem d_PR_step_48 : decode b_PR_step 48 = .ok (.istore_n 2, 1) := by decide +kernel
theorem d_PR_step_49 : decode b_PR_step 49 = .ok (.iload_n 1, 1) := by decide +kernel
theorem d_PR_step_50 : decode b_PR_step 50 = .ok (.iload_n 2, 1) := by decide +kernel
theorem d_PR_step_51 : decode b_PR_step 51 = .ok (.invokestatic 63, 3) := by decide +kernel
theorem d_PR_step_54 : decode b_PR_step 54 = .ok (.ifCond .ne 5, 3) := by decide +kernel
theorem d_PR_step_57 : decode b_PR_step 57 = .ok (.iconst 3, 1) := by decide +kernel
theorem d_PR_step_58 : decode b_PR_step 58 = .ok (.ireturn, 1) := by decide +kernel
theorem d_PR_step_59 : decode b_PR_step 59 = .ok (.aload_n 0, 1) := by decide +kernel
theorem d_PR_step_60 : decode b_PR_step 60 = .ok (.getfield 67, 3) := by decide +kernel
theorem d_PR_step_63 : decode b_PR_step 63 = .ok (.istore_n 3, 1) := by decide +kernel
theorem d_PR_step_64 : decode b_PR_step 64 = .ok (.aload_n 0, 1) := by decide +kernel
theorem d_PR_step_65 : decode b_PR_step 65 = .ok (.iload_n 1, 1) := by decide +kernel
theorem d_PR_step_66 : decode b_PR_step 66 = .ok (.iload_n 2, 1) := by decide +kernel
theorem d_PR_step_67 : decode b_PR_step 67 = .ok (.invokevirtual 70, 3) := by decide +kernel
theorem d_PR_step_70 : decode b_PR_step 70 = .ok (.aload_n 0, 1) := by decide +kernel
theorem d_PR_step_71 : decode b_PR_step 71 = .ok (.iload_n 1, 1) := by decide +kernel
theorem d_PR_step_72 : decode b_PR_step 72 = .ok (.iload_n 2, 1) := by decide +kernel
theorem d_PR_step_73 : decode b_PR_step 73 = .ok (.iload_n 3, 1) := by decide +kernel
theorem d_PR_step_74 : decode b_PR_step 74 = .ok (.invokevirtual 74, 3) := by decide +kernel
theorem d_PR_step_77 : decode b_PR_step 77 = .ok (.ireturn, 1) := by decide +kernel
theorem d_PR_instructionLength_0 : decode b_PR_instructionLength 0 = .ok (.iconst 1, 1) := by decide +kernel
theorem d_PR_instructionLength_1 : decode b_PR_instructionLength 1 = .ok (.istore_n 1, 1) := by decide +kernel
theorem d_PR_instructionLength_2 : decode b_PR_instructionLength 2 = .ok (.iload_n 1, 1) := by decide +kernel
theorem d_PR_instructionLength_3 : decode b_PR_instructionLength 3 = .ok (.bipush 8, 2) := by decide +kernel
theorem d_PR_instructionLength_5 : decode b_PR_instructionLength 5 = .ok (.if_icmp .gt 43, 3) := by decide +kernel
theorem d_PR_instructionLength_8 : decode b_PR_instructionLength 8 = .ok (.aload_n 0, 1) := by decide +kernel
theorem d_PR_instructionLength_9 : decode b_PR_instructionLength 9 = .ok (.getfield 9, 3) := by decide +kernel
theorem d_PR_instructionLength_12 : decode b_PR_instructionLength 12 = .ok (.aload_n 0, 1) := by decide +kernel
theorem d_PR_instructionLength_13 : decode b_PR_instructionLength 13 = .ok (.getfield 44, 3) := by decide +kernel
theorem d_PR_instructionLength_16 : decode b_PR_instructionLength 16 = .ok (.iload_n 1, 1) := by decide +kernel
theorem d_PR_instructionLength_17 : decode b_PR_instructionLength 17 = .ok (.iadd, 1) := by decide +kernel
theorem d_PR_instructionLength_18 : decode b_PR_instructionLength 18 = .ok (.invokevirtual 47, 3) := by decide +kernel
theorem d_PR_instructionLength_21 : decode b_PR_instructionLength 21 = .ok (.ifCond .eq 27, 3) := by decide +kernel
theorem d_PR_instructionLength_24 : decode b_PR_instructionLength 24 = .ok (.aload_n 0, 1) := by decide +kernel
theorem d_PR_instructionLength_25 : decode b_PR_instructionLength 25 = .ok (.getfield 9, 3) := by decide +kernel
theorem d_PR_instructionLength_28 : decode b_PR_instructionLength 28 = .ok (.aload_n 0, 1) := by decide +kernel
theorem d_PR_instructionLength_29 : decode b_PR_instructionLength 29 = .ok (.getfield 44, 3) := by decide +kernel
theorem d_PR_instructionLength_32 : decode b_PR_instructionLength 32 = .ok (.iload_n 1, 1) := by decide +kernel
theorem d_PR_instructionLength_33 : decode b_PR_instructionLength 33 = .ok (.iadd, 1) := by decide +kernel
theorem d_PR_instructionLength_34 : decode b_PR_instructionLength 34 = .ok (.invokevirtual 53, 3) := by decide +kernel
theorem d_PR_instructionLength_37 : decode b_PR_instructionLength 37 = .ok (.ifCond .eq 5, 3) := by decide +kernel
theorem d_PR_instructionLength_40 : decode b_PR_instructionLength 40 = .ok (.iload_n 1, 1) := by decide +kernel
theorem d_PR_instructionLength_41 : decode b_PR_instructionLength 41 = .ok (.ireturn, 1) := by decide +kernel
theorem d_PR_instructionLength_42 : decode b_PR_instructionLength 42 = .ok (.iinc 1 1, 3) := by decide +kernel
theorem d_PR_instructionLength_45 : decode b_PR_instructionLength 45 = .ok (.goto (-43), 3) := by decide +kernel
theorem d_PR_instructionLength_48 : decode b_PR_instructionLength 48 = .ok (.iconst (-1), 1) := by decide +kernel
theorem d_PR_instructionLength_49 : decode b_PR_instructionLength 49 = .ok (.ireturn, 1) := by decide +kernel
theorem d_PR_allows_0 : decode b_PR_allows 0 = .ok (.iload_n 0, 1) := by decide +kernel
theorem d_PR_allows_1 : decode b_PR_allows 1 = .ok (.tableswitch 391 1 60 #[316, 316, 391, 316, 391, 391, 391, 391, 391, 391, 391, 391, 391, 391, 391, 391, 255, 255, 391, 391, 304, 391, 391, 255, 255, 391, 255, 391, 391, 391, 391, 391, 391, 391, 255, 255, 353, 391, 391, 342, 391, 255, 391, 391, 391, 391, 391, 391, 255, 277, 255, 255, 391, 391, 391, 342, 391, 255, 375, 255], 255) := by decide +kernel
theorem d_PR_allows_256 : decode b_PR_allows 256 = .ok (.iload_n 1, 1) := by decide +kernel
theorem d_PR_allows_257 : decode b_PR_allows 257 = .ok (.iconst 1, 1) := by decide +kernel
theorem d_PR_allows_258 : decode b_PR_allows 258 = .ok (.if_icmp .eq 14, 3) := by decide +kernel
theorem d_PR_allows_261 : decode b_PR_allows 261 = .ok (.iload_n 1, 1) := by decide +kernel
theorem d_PR_allows_262 : decode b_PR_allows 262 = .ok (.iconst 4, 1) := by decide +kernel
theorem d_PR_allows_263 : decode b_PR_allows 263 = .ok (.if_icmp .eq 9, 3) := by decide +kernel
theorem d_PR_allows_266 : decode b_PR_allows 266 = .ok (.iload_n 1, 1) := by decide +kernel
theorem d_PR_allows_267 : decode b_PR_allows 267 = .ok (.bipush 7, 2) := by decide +kernel
theorem d_PR_allows_269 : decode b_PR_allows 269 = .ok (.if_icmp .ne 7, 3) := by decide +kernel
theorem d_PR_allows_272 : decode b_PR_allows 272 = .ok (.iconst 1, 1) := by decide +kernel
theorem d_PR_allows_273 : decode b_PR_allows 273 = .ok (.goto 4, 3) := by decide +kernel
theorem d_PR_allows_276 : decode b_PR_allows 276 = .ok (.iconst 0, 1) := by decide +kernel
theorem d_PR_allows_277 : decode b_PR_allows 277 = .ok (.ireturn, 1) := by decide +kernel
theorem d_PR_allows_278 : decode b_PR_allows 278 = .ok (.iload_n 1, 1) := by decide +kernel
theorem d_PR_allows_279 : decode b_PR_allows 279 = .ok (.iconst 1, 1) := by decide +kernel
theorem d_PR_allows_280 : decode b_PR_allows 280 = .ok (.if_icmp .eq 19, 3) := by decide +kernel
theorem d_PR_allows_283 : decode b_PR_allows 283 = .ok (.iload_n 1, 1) := by decide +kernel
theorem d_PR_allows_284 : decode b_PR_allows 284 = .ok (.iconst 4, 1) := by decide +kernel
theorem d_PR_allows_285 : decode b_PR_allows 285 = .ok (.if_icmp .eq 14, 3) := by decide +kernel
theorem d_PR_allows_288 : decode b_PR_allows 288 = .ok (.iload_n 1, 1) := by decide +kernel
theorem d_PR_allows_289 : decode b_PR_allows 289 = .ok (.iconst 5, 1) := by decide +kernel
theorem d_PR_allows_290 : decode b_PR_allows 290 = .ok (.if_icmp .eq 9, 3) := by decide +kernel
theorem d_PR_allows_293 : decode b_PR_allows 293 = .ok (.iload_n 1, 1) := by decide +kernel
theorem d_PR_allows_294 : decode b_PR_allows 294 = .ok (.bipush 8, 2) := by decide +kernel
theorem d_PR_allows_296 : decode b_PR_allows 296 = .ok (.if_icmp .ne 7, 3) := by decide +kernel
theorem d_PR_allows_299 : decode b_PR_allows 299 = .ok (.iconst 1, 1) := by decide +kernel
theorem d_PR_allows_300 : decode b_PR_allows 300 = .ok (.goto 4, 3) := by decide +kernel
theorem d_PR_allows_303 : decode b_PR_allows 303 = .ok (.iconst 0, 1) := by decide +kernel
theorem d_PR_allows_304 : decode b_PR_allows 304 = .ok (.ireturn, 1) := by decide +kernel
theorem d_PR_allows_305 : decode b_PR_allows 305 = .ok (.iload_n 1, 1) := by decide +kernel
theorem d_PR_allows_306 : decode b_PR_allows 306 = .ok (.bipush 8, 2) := by decide +kernel
theorem d_PR_allows_308 : decode b_PR_allows 308 = .ok (.if_icmp .ne 7, 3) := by decide +kernel
theorem d_PR_allows_311 : decode b_PR_allows 311 = .ok (.iconst 1, 1) := by decide +kernel
theorem d_PR_allows_312 : decode b_PR_allows 312 = .ok (.goto 4, 3) := by decide +kernel
theorem d_PR_allows_315 : decode b_PR_allows 315 = .ok (.iconst 0, 1) := by decide +kernel
theorem d_PR_allows_316 : decode b_PR_allows 316 = .ok (.ireturn, 1) := by decide +kernel
theorem d_PR_allows_317 : decode b_PR_allows 317 = .ok (.iload_n 1, 1) := by decide +kernel
theorem d_PR_allows_318 : decode b_PR_allows 318 = .ok (.iconst 1, 1) := by decide +kernel
theorem d_PR_allows_319 : decode b_PR_allows 319 = .ok (.if_icmp .eq 18, 3) := by decide +kernel
theorem d_PR_allows_322 : decode b_PR_allows 322 = .ok (.iload_n 1, 1) := by decide +kernel
theorem d_PR_allows_323 : decode b_PR_allows 323 = .ok (.iconst 2, 1) := by decide +kernel
theorem d_PR_allows_324 : decode b_PR_allows 324 = .ok (.if_icmp .eq 13, 3) := by decide +kernel
theorem d_PR_allows_327 : decode b_PR_allows 327 = .ok (.iload_n 1, 1) := by decide +kernel
theorem d_PR_allows_328 : decode b_PR_allows 328 = .ok (.iconst 4, 1) := by decide +kernel
theorem d_PR_allows_329 : decode b_PR_allows 329 = .ok (.if_icmp .eq 8, 3) := by decide +kernel
theorem d_PR_allows_332 : decode b_PR_allows 332 = .ok (.iload_n 1, 1) := by decide +kernel
theorem d_PR_allows_333 : decode b_PR_allows 333 = .ok (.iconst 5, 1) := by decide +kernel
theorem d_PR_allows_334 : decode b_PR_allows 334 = .ok (.if_icmp .ne 7, 3) := by decide +kernel
theorem d_PR_allows_337 : decode b_PR_allows 337 = .ok (.iconst 1, 1) := by decide +kernel
theorem d_PR_allows_338 : decode b_PR_allows 338 = .ok (.goto 4, 3) := by decide +kernel
theorem d_PR_allows_341 : decode b_PR_allows 341 = .ok (.iconst 0, 1) := by decide +kernel
theorem d_PR_allows_342 : decode b_PR_allows 342 = .ok (.ireturn, 1) := by decide +kernel
theorem d_PR_allows_343 : decode b_PR_allows 343 = .ok (.iload_n 1, 1) := by decide +kernel
theorem d_PR_allows_344 : decode b_PR_allows 344 = .ok (.iconst 4, 1) := by decide +kernel
theorem d_PR_allows_345 : decode b_PR_allows 345 = .ok (.if_icmp .ne 7, 3) := by decide +kernel
theorem d_PR_allows_348 : decode b_PR_allows 348 = .ok (.iconst 1, 1) := by decide +kernel
theorem d_PR_allows_349 : decode b_PR_allows 349 = .ok (.goto 4, 3) := by decide +kernel
theorem d_PR_allows_352 : decode b_PR_allows 352 = .ok (.iconst 0, 1) := by decide +kernel
theorem d_PR_allows_353 : decode b_PR_allows 353 = .ok (.ireturn, 1) := by decide +kernel
theorem d_PR_allows_354 : decode b_PR_allows 354 = .ok (.iload_n 1, 1) := by decide +kernel
theorem d_PR_allows_355 : decode b_PR_allows 355 = .ok (.iconst (-1), 1) := by decide +kernel
theorem d_PR_allows_356 : decode b_PR_allows 356 = .ok (.if_icmp .eq 18, 3) := by decide +kernel
theorem d_PR_allows_359 : decode b_PR_allows 359 = .ok (.iload_n 1, 1) := by decide +kernel
theorem d_PR_allows_360 : decode b_PR_allows 360 = .ok (.iconst 3, 1) := by decide +kernel
theorem d_PR_allows_361 : decode b_PR_allows 361 = .ok (.if_icmp .eq 13, 3) := by decide +kernel
theorem d_PR_allows_364 : decode b_PR_allows 364 = .ok (.iload_n 1, 1) := by decide +kernel
theorem d_PR_allows_365 : decode b_PR_allows 365 = .ok (.bipush 6, 2) := by decide +kernel
theorem d_PR_allows_367 : decode b_PR_allows 367 = .ok (.if_icmp .eq 7, 3) := by decide +kernel
theorem d_PR_allows_370 : decode b_PR_allows 370 = .ok (.iconst 1, 1) := by decide +kernel
theorem d_PR_allows_371 : decode b_PR_allows 371 = .ok (.goto 4, 3) := by decide +kernel
theorem d_PR_allows_374 : decode b_PR_allows 374 = .ok (.iconst 0, 1) := by decide +kernel
theorem d_PR_allows_375 : decode b_PR_allows 375 = .ok (.ireturn, 1) := by decide +kernel
theorem d_PR_allows_376 : decode b_PR_allows 376 = .ok (.iload_n 1, 1) := by decide +kernel
theorem d_PR_allows_377 : decode b_PR_allows 377 = .ok (.iconst 1, 1) := by decide +kernel
theorem d_PR_allows_378 : decode b_PR_allows 378 = .ok (.if_icmp .eq 8, 3) := by decide +kernel
theorem d_PR_allows_381 : decode b_PR_allows 381 = .ok (.iload_n 1, 1) := by decide +kernel
theorem d_PR_allows_382 : decode b_PR_allows 382 = .ok (.iconst 4, 1) := by decide +kernel
theorem d_PR_allows_383 : decode b_PR_allows 383 = .ok (.if_icmp .ne 7, 3) := by decide +kernel
theorem d_PR_allows_386 : decode b_PR_allows 386 = .ok (.iconst 1, 1) := by decide +kernel
theorem d_PR_allows_387 : decode b_PR_allows 387 = .ok (.goto 4, 3) := by decide +kernel
theorem d_PR_allows_390 : decode b_PR_allows 390 = .ok (.iconst 0, 1) := by decide +kernel
theorem d_PR_allows_391 : decode b_PR_allows 391 = .ok (.ireturn, 1) := by decide +kernel
theorem d_PR_allows_392 : decode b_PR_allows 392 = .ok (.iconst 0, 1) := by decide +kernel
theorem d_PR_allows_393 : decode b_PR_allows 393 = .ok (.ireturn, 1) := by decide +kernel
theorem d_PR_takeAddresses_0 : decode b_PR_takeAddresses 0 = .ok (.iload_n 2, 1) := by decide +kernel
theorem d_PR_takeAddresses_1 : decode b_PR_takeAddresses 1 = .ok (.iconst 4, 1) := by decide +kernel
theorem d_PR_takeAddresses_2 : decode b_PR_takeAddresses 2 = .ok (.if_icmp .lt 20, 3) := by decide +kernel
theorem d_PR_takeAddresses_5 : decode b_PR_takeAddresses 5 = .ok (.aload_n 0, 1) := by decide +kernel
theorem d_PR_takeAddresses_6 : decode b_PR_takeAddresses 6 = .ok (.aload_n 0, 1) := by decide +kernel
theorem d_PR_takeAddresses_7 : decode b_PR_takeAddresses 7 = .ok (.getfield 9, 3) := by decide +kernel
theorem d_PR_takeAddresses_10 : decode b_PR_takeAddresses 10 = .ok (.aload_n 0, 1) := by decide +kernel
theorem d_PR_takeAddresses_11 : decode b_PR_takeAddresses 11 = .ok (.getfield 44, 3) := by decide +kernel
theorem d_PR_takeAddresses_14 : decode b_PR_takeAddresses 14 = .ok (.iconst 1, 1) := by decide +kernel
theorem d_PR_takeAddresses_15 : decode b_PR_takeAddresses 15 = .ok (.iadd, 1) := by decide +kernel
theorem d_PR_takeAddresses_16 : decode b_PR_takeAddresses 16 = .ok (.invokevirtual 78, 3) := by decide +kernel
theorem d_PR_takeAddresses_19 : decode b_PR_takeAddresses 19 = .ok (.putfield 67, 3) := by decide +kernel
theorem d_PR_takeAddresses_22 : decode b_PR_takeAddresses 22 = .ok (.iload_n 2, 1) := by decide +kernel
theorem d_PR_takeAddresses_23 : decode b_PR_takeAddresses 23 = .ok (.bipush 7, 2) := by decide +kernel
theorem d_PR_takeAddresses_25 : decode b_PR_takeAddresses 25 = .ok (.if_icmp .lt 23, 3) := by decide +kernel
theorem d_PR_takeAddresses_28 : decode b_PR_takeAddresses 28 = .ok (.aload_n 0, 1) := by decide +kernel
theorem d_PR_takeAddresses_29 : decode b_PR_takeAddresses 29 = .ok (.aload_n 0, 1) := by decide +kernel
theorem d_PR_takeAddresses_30 : decode b_PR_takeAddresses 30 = .ok (.getfield 9, 3) := by decide +kernel
theorem d_PR_takeAddresses_33 : decode b_PR_takeAddresses 33 = .ok (.aload_n 0, 1) := by decide +kernel
theorem d_PR_takeAddresses_34 : decode b_PR_takeAddresses 34 = .ok (.getfield 44, 3) := by decide +kernel
theorem d_PR_takeAddresses_37 : decode b_PR_takeAddresses 37 = .ok (.iconst 4, 1) := by decide +kernel
theorem d_PR_takeAddresses_38 : decode b_PR_takeAddresses 38 = .ok (.iadd, 1) := by decide +kernel
theorem d_PR_takeAddresses_39 : decode b_PR_takeAddresses 39 = .ok (.invokevirtual 78, 3) := by decide +kernel
theorem d_PR_takeAddresses_42 : decode b_PR_takeAddresses 42 = .ok (.putfield 81, 3) := by decide +kernel
theorem d_PR_takeAddresses_45 : decode b_PR_takeAddresses 45 = .ok (.goto 23, 3) := by decide +kernel
theorem d_PR_takeAddresses_48 : decode b_PR_takeAddresses 48 = .ok (.iload_n 2, 1) := by decide +kernel
theorem d_PR_takeAddresses_49 : decode b_PR_takeAddresses 49 = .ok (.iconst 4, 1) := by decide +kernel
theorem d_PR_takeAddresses_50 : decode b_PR_takeAddresses 50 = .ok (.if_icmp .lt 18, 3) := by decide +kernel
theorem d_PR_takeAddresses_53 : decode b_PR_takeAddresses 53 = .ok (.iload_n 1, 1) := by decide +kernel
theorem d_PR_takeAddresses_54 : decode b_PR_takeAddresses 54 = .ok (.invokestatic 84, 3) := by decide +kernel
theorem d_PR_takeAddresses_57 : decode b_PR_takeAddresses 57 = .ok (.ifCond .ne 11, 3) := by decide +kernel
theorem d_PR_takeAddresses_60 : decode b_PR_takeAddresses 60 = .ok (.aload_n 0, 1) := by decide +kernel
theorem d_PR_takeAddresses_61 : decode b_PR_takeAddresses 61 = .ok (.aload_n 0, 1) := by decide +kernel
theorem d_PR_takeAddresses_62 : decode b_PR_takeAddresses 62 = .ok (.getfield 67, 3) := by decide +kernel
theorem d_PR_takeAddresses_65 : decode b_PR_takeAddresses 65 = .ok (.putfield 81, 3) := by decide +kernel
theorem d_PR_takeAddresses_68 : decode b_PR_takeAddresses 68 = .ok (.aload_n 0, 1) := by decide +kernel
theorem d_PR_takeAddresses_69 : decode b_PR_takeAddresses 69 = .ok (.dup, 1) := by decide +kernel
theorem d_PR_takeAddresses_70 : decode b_PR_takeAddresses 70 = .ok (.getfield 44, 3) := by decide +kernel
theorem d_PR_takeAddresses_73 : decode b_PR_takeAddresses 73 = .ok (.iload_n 2, 1) := by decide +kernel
theorem d_PR_takeAddresses_74 : decode b_PR_takeAddresses 74 = .ok (.iadd, 1) := by decide +kernel
theorem d_PR_takeAddresses_75 : decode b_PR_takeAddresses 75 = .ok (.putfield 44, 3) := by decide +kernel
theorem d_PR_takeAddresses_78 : decode b_PR_takeAddresses 78 = .ok (.return_, 1) := by decide +kernel
theorem d_PR_keepsB_0 : decode b_PR_keepsB 0 = .ok (.iload_n 0, 1) := by decide +kernel
theorem d_PR_keepsB_1 : decode b_PR_keepsB 1 = .ok (.lookupswitch 61 #[(24, 59), (35, 59), (36, 59), (40, 59), (52, 59), (56, 59)], 59) := by decide +kernel
theorem d_PR_keepsB_60 : decode b_PR_keepsB 60 = .ok (.iconst 1, 1) := by decide +kernel
theorem d_PR_keepsB_61 : decode b_PR_keepsB 61 = .ok (.ireturn, 1) := by decide +kernel
theorem d_PR_keepsB_62 : decode b_PR_keepsB 62 = .ok (.iconst 0, 1) := by decide +kernel
theorem d_PR_keepsB_63 : decode b_PR_keepsB 63 = .ok (.ireturn, 1) := by decide +kernel
theorem d_PR_perform_0 : decode b_PR_perform 0 = .ok (.iload_n 1, 1) := by decide +kernel
theorem d_PR_perform_1 : decode b_PR_perform 1 = .ok (.tableswitch 449 1 60 #[356, 371, 449, 396, 449, 449, 449, 449, 449, 449, 449, 449, 449, 449, 449, 449, 324, 262, 449, 449, 351, 449, 449, 300, 340, 449, 312, 449, 449, 449, 449, 449, 449, 449, 288, 283, 449, 449, 449, 419, 449, 276, 449, 449, 449, 449, 449, 449, 255, 345, 307, 293, 449, 449, 449, 425, 449, 269, 434, 318], 255) := by decide +kernel
theorem d_PR_perform_256 : decode b_PR_perform 256 = .ok (.aload_n 0, 1) := by decide +kernel
theorem d_PR_perform_257 : decode b_PR_perform 257 = .ok (.iconst 0, 1) := by decide +kernel
theorem d_PR_perform_258 : decode b_PR_perform 258 = .ok (.iconst 0, 1) := by decide +kernel
theorem d_PR_perform_259 : decode b_PR_perform 259 = .ok (.invokevirtual 87, 3) := by decide +kernel
theorem d_PR_perform_262 : decode b_PR_perform 262 = .ok (.ireturn, 1) := by decide +kernel
theorem d_PR_perform_263 : decode b_PR_perform 263 = .ok (.aload_n 0, 1) := by decide +kernel
theorem d_PR_perform_264 : decode b_PR_perform 264 = .ok (.iconst 0, 1) := by decide +kernel
theorem d_PR_perform_265 : decode b_PR_perform 265 = .ok (.iconst 1, 1) := by decide +kernel
theorem d_PR_perform_266 : decode b_PR_perform 266 = .ok (.invokevirtual 87, 3) := by decide +kernel
theorem d_PR_perform_269 : decode b_PR_perform 269 = .ok (.ireturn, 1) := by decide +kernel
theorem d_PR_perform_270 : decode b_PR_perform 270 = .ok (.aload_n 0, 1) := by decide +kernel
theorem d_PR_perform_271 : decode b_PR_perform 271 = .ok (.iconst 1, 1) := by decide +kernel
theorem d_PR_perform_272 : decode b_PR_perform 272 = .ok (.iconst 0, 1) := by decide +kernel
theorem d_PR_perform_273 : decode b_PR_perform 273 = .ok (.invokevirtual 87, 3) := by decide +kernel
theorem d_PR_perform_276 : decode b_PR_perform 276 = .ok (.ireturn, 1) := by decide +kernel
theorem d_PR_perform_277 : decode b_PR_perform 277 = .ok (.aload_n 0, 1) := by decide +kernel
theorem d_PR_perform_278 : decode b_PR_perform 278 = .ok (.iconst 1, 1) := by decide +kernel
theorem d_PR_perform_279 : decode b_PR_perform 279 = .ok (.iconst 1, 1) := by decide +kernel
theorem d_PR_perform_280 : decode b_PR_perform 280 = .ok (.invokevirtual 87, 3) := by decide +kernel
theorem d_PR_perform_283 : decode b_PR_perform 283 = .ok (.ireturn, 1) := by decide +kernel
theorem d_PR_perform_284 : decode b_PR_perform 284 = .ok (.aload_n 0, 1) := by decide +kernel
theorem d_PR_perform_285 : decode b_PR_perform 285 = .ok (.invokevirtual 91, 3) := by decide +kernel
theorem d_PR_perform_288 : decode b_PR_perform 288 = .ok (.ireturn, 1) := by decide +kernel
theorem d_PR_perform_289 : decode b_PR_perform 289 = .ok (.aload_n 0, 1) := by decide +kernel
theorem d_PR_perform_290 : decode b_PR_perform 290 = .ok (.invokevirtual 94, 3) := by decide +kernel
theorem d_PR_perform_293 : decode b_PR_perform 293 = .ok (.ireturn, 1) := by decide +kernel
theorem d_PR_perform_294 : decode b_PR_perform 294 = .ok (.aload_n 0, 1) := by decide +kernel
theorem d_PR_perform_295 : decode b_PR_perform 295 = .ok (.bipush 15, 2) := by decide +kernel
theorem d_PR_perform_297 : decode b_PR_perform 297 = .ok (.invokevirtual 97, 3) := by decide +kernel
theorem d_PR_perform_300 : decode b_PR_perform 300 = .ok (.ireturn, 1) := by decide +kernel
theorem d_PR_perform_301 : decode b_PR_perform 301 = .ok (.aload_n 0, 1) := by decide +kernel
theorem d_PR_perform_302 : decode b_PR_perform 302 = .ok (.bipush 48, 2) := by decide +kernel
theorem d_PR_perform_304 : decode b_PR_perform 304 = .ok (.invokevirtual 97, 3) := by decide +kernel
theorem d_PR_perform_307 : decode b_PR_perform 307 = .ok (.ireturn, 1) := by decide +kernel
theorem d_PR_perform_308 : decode b_PR_perform 308 = .ok (.aload_n 0, 1) := by decide +kernel
theorem d_PR_perform_309 : decode b_PR_perform 309 = .ok (.invokevirtual 100, 3) := by decide +kernel
theorem d_PR_perform_312 : decode b_PR_perform 312 = .ok (.ireturn, 1) := by decide +kernel
theorem d_PR_perform_313 : decode b_PR_perform 313 = .ok (.aload_n 0, 1) := by decide +kernel
theorem d_PR_perform_314 : decode b_PR_perform 314 = .ok (.iconst 1, 1) := by decide +kernel
theorem d_PR_perform_315 : decode b_PR_perform 315 = .ok (.invokevirtual 103, 3) := by decide +kernel
theorem d_PR_perform_318 : decode b_PR_perform 318 = .ok (.ireturn, 1) := by decide +kernel
theorem d_PR_perform_319 : decode b_PR_perform 319 = .ok (.aload_n 0, 1) := by decide +kernel
theorem d_PR_perform_320 : decode b_PR_perform 320 = .ok (.iconst 0, 1) := by decide +kernel
theorem d_PR_perform_321 : decode b_PR_perform 321 = .ok (.invokevirtual 103, 3) := by decide +kernel
theorem d_PR_perform_324 : decode b_PR_perform 324 = .ok (.ireturn, 1) := by decide +kernel
theorem d_PR_perform_325 : decode b_PR_perform 325 = .ok (.aload_n 0, 1) := by decide +kernel
theorem d_PR_perform_326 : decode b_PR_perform 326 = .ok (.iload_n 2, 1) := by decide +kernel
theorem d_PR_perform_327 : decode b_PR_perform 327 = .ok (.bipush 7, 2) := by decide +kernel
theorem d_PR_perform_329 : decode b_PR_perform 329 = .ok (.if_icmp .ne 7, 3) := by decide +kernel
theorem d_PR_perform_332 : decode b_PR_perform 332 = .ok (.iconst 1, 1) := by decide +kernel
theorem d_PR_perform_333 : decode b_PR_perform 333 = .ok (.goto 4, 3) := by decide +kernel
theorem d_PR_perform_336 : decode b_PR_perform 336 = .ok (.iconst 0, 1) := by decide +kernel
theorem d_PR_perform_337 : decode b_PR_perform 337 = .ok (.invokevirtual 107, 3) := by decide +kernel
theorem d_PR_perform_340 : decode b_PR_perform 340 = .ok (.ireturn, 1) := by decide +kernel
theorem d_PR_perform_341 : decode b_PR_perform 341 = .ok (.aload_n 0, 1) := by decide +kernel
theorem d_PR_perform_342 : decode b_PR_perform 342 = .ok (.invokevirtual 110, 3) := by decide +kernel
theorem d_PR_perform_345 : decode b_PR_perform 345 = .ok (.ireturn, 1) := by decide +kernel
theorem d_PR_perform_346 : decode b_PR_perform 346 = .ok (.aload_n 0, 1) := by decide +kernel
theorem d_PR_perform_347 : decode b_PR_perform 347 = .ok (.iload_n 2, 1) := by decide +kernel
theorem d_PR_perform_348 : decode b_PR_perform 348 = .ok (.invokevirtual 113, 3) := by decide +kernel
theorem d_PR_perform_351 : decode b_PR_perform 351 = .ok (.ireturn, 1) := by decide +kernel
theorem d_PR_perform_352 : decode b_PR_perform 352 = .ok (.aload_n 0, 1) := by decide +kernel
theorem d_PR_perform_353 : decode b_PR_perform 353 = .ok (.invokevirtual 116, 3) := by decide +kernel
theorem d_PR_perform_356 : decode b_PR_perform 356 = .ok (.ireturn, 1) := by decide +kernel
theorem d_PR_perform_357 : decode b_PR_perform 357 = .ok (.aload_n 0, 1) := by decide +kernel
theorem d_PR_perform_358 : decode b_PR_perform 358 = .ok (.iload_n 2, 1) := by decide +kernel
theorem d_PR_perform_359 : decode b_PR_perform 359 = .ok (.iconst 4, 1) := by decide +kernel
theorem d_PR_perform_360 : decode b_PR_perform 360 = .ok (.if_icmp .lt 7, 3) := by decide +kernel
theorem d_PR_perform_363 : decode b_PR_perform 363 = .ok (.iconst 1, 1) := by decide +kernel
theorem d_PR_perform_364 : decode b_PR_perform 364 = .ok (.goto 4, 3) := by decide +kernel
theorem d_PR_perform_367 : decode b_PR_perform 367 = .ok (.iconst 0, 1) := by decide +kernel
theorem d_PR_perform_368 : decode b_PR_perform 368 = .ok (.invokevirtual 119, 3) := by decide +kernel
theorem d_PR_perform_371 : decode b_PR_perform 371 = .ok (.ireturn, 1) := by decide +kernel
theorem d_PR_perform_372 : decode b_PR_perform 372 = .ok (.aload_n 0, 1) := by decide +kernel
theorem d_PR_perform_373 : decode b_PR_perform 373 = .ok (.aload_n 0, 1) := by decide +kernel
theorem d_PR_perform_374 : decode b_PR_perform 374 = .ok (.getfield 19, 3) := by decide +kernel
theorem d_PR_perform_377 : decode b_PR_perform 377 = .ok (.sipush 201, 3) := by decide +kernel
theorem d_PR_perform_380 : decode b_PR_perform 380 = .ok (.sipush 132, 3) := by decide +kernel
theorem d_PR_perform_383 : decode b_PR_perform 383 = .ok (.iload_n 2, 1) := by decide +kernel
theorem d_PR_perform_384 : decode b_PR_perform 384 = .ok (.iconst 4, 1) := by decide +kernel
theorem d_PR_perform_385 : decode b_PR_perform 385 = .ok (.if_icmp .lt 7, 3) := by decide +kernel
theorem d_PR_perform_388 : decode b_PR_perform 388 = .ok (.iconst 1, 1) := by decide +kernel
theorem d_PR_perform_389 : decode b_PR_perform 389 = .ok (.goto 4, 3) := by decide +kernel
theorem d_PR_perform_392 : decode b_PR_perform 392 = .ok (.iconst 0, 1) := by decide +kernel
theorem d_PR_perform_393 : decode b_PR_perform 393 = .ok (.invokevirtual 122, 3) := by decide +kernel
theorem d_PR_perform_396 : decode b_PR_perform 396 = .ok (.ireturn, 1) := by decide +kernel
theorem d_PR_perform_397 : decode b_PR_perform 397 = .ok (.aload_n 0, 1) := by decide +kernel
theorem d_PR_perform_398 : decode b_PR_perform 398 = .ok (.aload_n 0, 1) := by decide +kernel
theorem d_PR_perform_399 : decode b_PR_perform 399 = .ok (.getfield 22, 3) := by decide +kernel
theorem d_PR_perform_402 : decode b_PR_perform 402 = .ok (.bipush 101, 2) := by decide +kernel
theorem d_PR_perform_404 : decode b_PR_perform 404 = .ok (.bipush 80, 2) := by decide +kernel
theorem d_PR_perform_406 : decode b_PR_perform 406 = .ok (.iload_n 2, 1) := by decide +kernel
theorem d_PR_perform_407 : decode b_PR_perform 407 = .ok (.iconst 4, 1) := by decide +kernel
theorem d_PR_perform_408 : decode b_PR_perform 408 = .ok (.if_icmp .lt 7, 3) := by decide +kernel
theorem d_PR_perform_411 : decode b_PR_perform 411 = .ok (.iconst 1, 1) := by decide +kernel
theorem d_PR_perform_412 : decode b_PR_perform 412 = .ok (.goto 4, 3) := by decide +kernel
theorem d_PR_perform_415 : decode b_PR_perform 415 = .ok (.iconst 0, 1) := by decide +kernel
theorem d_PR_perform_416 : decode b_PR_perform 416 = .ok (.invokevirtual 122, 3) := by decide +kernel
theorem d_PR_perform_419 : decode b_PR_perform 419 = .ok (.ireturn, 1) := by decide +kernel
theorem d_PR_perform_420 : decode b_PR_perform 420 = .ok (.aload_n 0, 1) := by decide +kernel
theorem d_PR_perform_421 : decode b_PR_perform 421 = .ok (.iload_n 3, 1) := by decide +kernel
theorem d_PR_perform_422 : decode b_PR_perform 422 = .ok (.invokevirtual 126, 3) := by decide +kernel
theorem d_PR_perform_425 : decode b_PR_perform 425 = .ok (.ireturn, 1) := by decide +kernel
theorem d_PR_perform_426 : decode b_PR_perform 426 = .ok (.aload_n 0, 1) := by decide +kernel
theorem d_PR_perform_427 : decode b_PR_perform 427 = .ok (.aload_n 0, 1) := by decide +kernel
theorem d_PR_perform_428 : decode b_PR_perform 428 = .ok (.getfield 81, 3) := by decide +kernel
theorem d_PR_perform_431 : decode b_PR_perform 431 = .ok (.invokevirtual 126, 3) := by decide +kernel
theorem d_PR_perform_434 : decode b_PR_perform 434 = .ok (.ireturn, 1) := by decide +kernel
theorem d_PR_perform_435 : decode b_PR_perform 435 = .ok (.aload_n 0, 1) := by decide +kernel
theorem d_PR_perform_436 : decode b_PR_perform 436 = .ok (.iload_n 2, 1) := by decide +kernel
theorem d_PR_perform_437 : decode b_PR_perform 437 = .ok (.iconst 4, 1) := by decide +kernel
theorem d_PR_perform_438 : decode b_PR_perform 438 = .ok (.if_icmp .ne 7, 3) := by decide +kernel
theorem d_PR_perform_441 : decode b_PR_perform 441 = .ok (.iconst 1, 1) := by decide +kernel
theorem d_PR_perform_442 : decode b_PR_perform 442 = .ok (.goto 4, 3) := by decide +kernel
theorem d_PR_perform_445 : decode b_PR_perform 445 = .ok (.iconst 0, 1) := by decide +kernel
theorem d_PR_perform_446 : decode b_PR_perform 446 = .ok (.invokevirtual 129, 3) := by decide +kernel
theorem d_PR_perform_449 : decode b_PR_perform 449 = .ok (.ireturn, 1) := by decide +kernel
theorem d_PR_perform_450 : decode b_PR_perform 450 = .ok (.iconst 0, 1) := by decide +kernel
theorem d_PR_perform_451 : decode b_PR_perform 451 = .ok (.ireturn, 1) := by decide +kernel
theorem d_PR_goThere_0 : decode b_PR_goThere 0 = .ok (.aload_n 0, 1) := by decide +kernel
theorem d_PR_goThere_1 : decode b_PR_goThere 1 = .ok (.getfield 44, 3) := by decide +kernel
theorem d_PR_goThere_4 : decode b_PR_goThere 4 = .ok (.istore_n 1, 1) := by decide +kernel
theorem d_PR_goThere_5 : decode b_PR_goThere 5 = .ok (.aload_n 0, 1) := by decide +kernel
theorem d_PR_goThere_6 : decode b_PR_goThere 6 = .ok (.aload_n 0, 1) := by decide +kernel
theorem d_PR_goThere_7 : decode b_PR_goThere 7 = .ok (.getfield 67, 3) := by decide +kernel
theorem d_PR_goThere_10 : decode b_PR_goThere 10 = .ok (.putfield 44, 3) := by decide +kernel
theorem d_PR_goThere_13 : decode b_PR_goThere 13 = .ok (.aload_n 0, 1) := by decide +kernel
theorem d_PR_goThere_14 : decode b_PR_goThere 14 = .ok (.iload_n 1, 1) := by decide +kernel
theorem d_PR_goThere_15 : decode b_PR_goThere 15 = .ok (.putfield 67, 3) := by decide +kernel
theorem d_PR_goThere_18 : decode b_PR_goThere 18 = .ok (.return_, 1) := by decide +kernel
theorem d_PR_modifier_0 : decode b_PR_modifier 0 = .ok (.aload_n 0, 1) := by decide +kernel
theorem d_PR_modifier_1 : decode b_PR_modifier 1 = .ok (.getfield 9, 3) := by decide +kernel
theorem d_PR_modifier_4 : decode b_PR_modifier 4 = .ok (.aload_n 0, 1) := by decide +kernel
theorem d_PR_modifier_5 : decode b_PR_modifier 5 = .ok (.getfield 44, 3) := by decide +kernel
theorem d_PR_modifier_8 : decode b_PR_modifier 8 = .ok (.iconst 1, 1) := by decide +kernel
theorem d_PR_modifier_9 : decode b_PR_modifier 9 = .ok (.isub, 1) := by decide +kernel
theorem d_PR_modifier_10 : decode b_PR_modifier 10 = .ok (.invokevirtual 56, 3) := by decide +kernel
theorem d_PR_modifier_13 : decode b_PR_modifier 13 = .ok (.ireturn, 1) := by decide +kernel
theorem d_PR_calculate_0 : decode b_PR_calculate 0 = .ok (.aload_n 0, 1) := by decide +kernel
theorem d_PR_calculate_1 : decode b_PR_calculate 1 = .ok (.getfield 9, 3) := by decide +kernel
theorem d_PR_calculate_4 : decode b_PR_calculate 4 = .ok (.aload_n 0, 1) := by decide +kernel
theorem d_PR_calculate_5 : decode b_PR_calculate 5 = .ok (.getfield 81, 3) := by decide +kernel
theorem d_PR_calculate_8 : decode b_PR_calculate 8 = .ok (.invokevirtual 132, 3) := by decide +kernel
theorem d_PR_calculate_11 : decode b_PR_calculate 11 = .ok (.istore_n 3, 1) := by decide +kernel
theorem d_PR_calculate_12 : decode b_PR_calculate 12 = .ok (.aload_n 0, 1) := by decide +kernel
theorem d_PR_calculate_13 : decode b_PR_calculate 13 = .ok (.getfield 9, 3) := by decide +kernel
theorem d_PR_calculate_16 : decode b_PR_calculate 16 = .ok (.aload_n 0, 1) := by decide +kernel
theorem d_PR_calculate_17 : decode b_PR_calculate 17 = .ok (.getfield 67, 3) := by decide +kernel
theorem d_PR_calculate_20 : decode b_PR_calculate 20 = .ok (.iload_n 3, 1) := by decide +kernel
theorem d_PR_calculate_21 : decode b_PR_calculate 21 = .ok (.invokevirtual 135, 3) := by decide +kernel
theorem d_PR_calculate_24 : decode b_PR_calculate 24 = .ok (.istore 4, 2) := by decide +kernel
theorem d_PR_calculate_26 : decode b_PR_calculate 26 = .ok (.iload_n 3, 1) := by decide +kernel
theorem d_PR_calculate_27 : decode b_PR_calculate 27 = .ok (.iconst (-1), 1) := by decide +kernel
theorem d_PR_calculate_28 : decode b_PR_calculate 28 = .ok (.if_icmp .eq 9, 3) := by decide +kernel
theorem d_PR_calculate_31 : decode b_PR_calculate 31 = .ok (.iload 4, 2) := by decide +kernel
theorem d_PR_calculate_33 : decode b_PR_calculate 33 = .ok (.iconst (-1), 1) := by decide +kernel
theorem d_PR_calculate_34 : decode b_PR_calculate 34 = .ok (.if_icmp .ne 5, 3) := by decide +kernel
theorem d_PR_calculate_37 : decode b_PR_calculate 37 = .ok (.iconst 2, 1) := by decide +kernel
theorem d_PR_calculate_38 : decode b_PR_calculate 38 = .ok (.ireturn, 1) := by decide +kernel
theorem d_PR_calculate_39 : decode b_PR_calculate 39 = .ok (.aload_n 0, 1) := by decide +kernel
theorem d_PR_calculate_40 : decode b_PR_calculate 40 = .ok (.getfield 9, 3) := by decide +kernel
theorem d_PR_calculate_43 : decode b_PR_calculate 43 = .ok (.aload_n 0, 1) := by decide +kernel
theorem d_PR_calculate_44 : decode b_PR_calculate 44 = .ok (.getfield 67, 3) := by decide +kernel
theorem d_PR_calculate_47 : decode b_PR_calculate 47 = .ok (.invokevirtual 138, 3) := by decide +kernel
theorem d_PR_calculate_50 : decode b_PR_calculate 50 = .ok (.iload_n 2, 1) := by decide +kernel
theorem d_PR_calculate_51 : decode b_PR_calculate 51 = .ok (.if_icmp .eq 7, 3) := by decide +kernel
theorem d_PR_calculate_54 : decode b_PR_calculate 54 = .ok (.iconst 1, 1) := by decide +kernel
theorem d_PR_calculate_55 : decode b_PR_calculate 55 = .ok (.goto 4, 3) := by decide +kernel
theorem d_PR_calculate_58 : decode b_PR_calculate 58 = .ok (.iconst 0, 1) := by decide +kernel
theorem d_PR_calculate_59 : decode b_PR_calculate 59 = .ok (.istore 5, 2) := by decide +kernel
theorem d_PR_calculate_61 : decode b_PR_calculate 61 = .ok (.aload_n 0, 1) := by decide +kernel
theorem d_PR_calculate_62 : decode b_PR_calculate 62 = .ok (.getfield 30, 3) := by decide +kernel
theorem d_PR_calculate_65 : decode b_PR_calculate 65 = .ok (.aload_n 0, 1) := by decide +kernel
theorem d_PR_calculate_66 : decode b_PR_calculate 66 = .ok (.getfield 67, 3) := by decide +kernel
theorem d_PR_calculate_69 : decode b_PR_calculate 69 = .ok (.iload 4, 2) := by decide +kernel
theorem d_PR_calculate_71 : decode b_PR_calculate 71 = .ok (.iload_n 3, 1) := by decide +kernel
theorem d_PR_calculate_72 : decode b_PR_calculate 72 = .ok (.invokevirtual 141, 3) := by decide +kernel
theorem d_PR_calculate_75 : decode b_PR_calculate 75 = .ok (.iload_n 1, 1) := by decide +kernel
theorem d_PR_calculate_76 : decode b_PR_calculate 76 = .ok (.ifCond .eq 34, 3) := by decide +kernel
theorem d_PR_calculate_79 : decode b_PR_calculate 79 = .ok (.aload_n 0, 1) := by decide +kernel
theorem d_PR_calculate_80 : decode b_PR_calculate 80 = .ok (.getfield 30, 3) := by decide +kernel
theorem d_PR_calculate_83 : decode b_PR_calculate 83 = .ok (.aload_n 0, 1) := by decide +kernel
theorem d_PR_calculate_84 : decode b_PR_calculate 84 = .ok (.getfield 81, 3) := by decide +kernel
theorem d_PR_calculate_87 : decode b_PR_calculate 87 = .ok (.iload_n 3, 1) := by decide +kernel
theorem d_PR_calculate_88 : decode b_PR_calculate 88 = .ok (.invokevirtual 145, 3) := by decide +kernel
theorem d_PR_calculate_91 : decode b_PR_calculate 91 = .ok (.aload_n 0, 1) := by decide +kernel
theorem d_PR_calculate_92 : decode b_PR_calculate 92 = .ok (.getfield 9, 3) := by decide +kernel
theorem d_PR_calculate_95 : decode b_PR_calculate 95 = .ok (.aload_n 0, 1) := by decide +kernel
theorem d_PR_calculate_96 : decode b_PR_calculate 96 = .ok (.getfield 81, 3) := by decide +kernel
theorem d_PR_calculate_99 : decode b_PR_calculate 99 = .ok (.iload 5, 2) := by decide +kernel
theorem d_PR_calculate_101 : decode b_PR_calculate 101 = .ok (.invokestatic 148, 3) := by decide +kernel
theorem d_PR_calculate_104 : decode b_PR_calculate 104 = .ok (.invokevirtual 151, 3) := by decide +kernel
theorem d_PR_calculate_107 : decode b_PR_calculate 107 = .ok (.goto 10, 3) := by decide +kernel
theorem d_PR_calculate_110 : decode b_PR_calculate 110 = .ok (.aload_n 0, 1) := by decide +kernel
theorem d_PR_calculate_111 : decode b_PR_calculate 111 = .ok (.iload_n 3, 1) := by decide +kernel
theorem d_PR_calculate_112 : decode b_PR_calculate 112 = .ok (.iload 5, 2) := by decide +kernel
theorem d_PR_calculate_114 : decode b_PR_calculate 114 = .ok (.invokevirtual 154, 3) := by decide +kernel
theorem d_PR_calculate_117 : decode b_PR_calculate 117 = .ok (.aload_n 0, 1) := by decide +kernel
theorem d_PR_calculate_118 : decode b_PR_calculate 118 = .ok (.dup, 1) := by decide +kernel
theorem d_PR_calculate_119 : decode b_PR_calculate 119 = .ok (.getfield 67, 3) := by decide +kernel
theorem d_PR_calculate_122 : decode b_PR_calculate 122 = .ok (.iload 4, 2) := by decide +kernel
theorem d_PR_calculate_124 : decode b_PR_calculate 124 = .ok (.isub, 1) := by decide +kernel
theorem d_PR_calculate_125 : decode b_PR_calculate 125 = .ok (.putfield 67, 3) := by decide +kernel
theorem d_PR_calculate_128 : decode b_PR_calculate 128 = .ok (.aload_n 0, 1) := by decide +kernel
theorem d_PR_calculate_129 : decode b_PR_calculate 129 = .ok (.dup, 1) := by decide +kernel
theorem d_PR_calculate_130 : decode b_PR_calculate 130 = .ok (.getfield 81, 3) := by decide +kernel
theorem d_PR_calculate_133 : decode b_PR_calculate 133 = .ok (.iload_n 3, 1) := by decide +kernel
theorem d_PR_calculate_134 : decode b_PR_calculate 134 = .ok (.isub, 1) := by decide +kernel
theorem d_PR_calculate_135 : decode b_PR_calculate 135 = .ok (.putfield 81, 3) := by decide +kernel
theorem d_PR_calculate_138 : decode b_PR_calculate 138 = .ok (.iconst 0, 1) := by decide +kernel
theorem d_PR_calculate_139 : decode b_PR_calculate 139 = .ok (.ireturn, 1) := by decide +kernel
theorem d_PR_addSigned_0 : decode b_PR_addSigned 0 = .ok (.aload_n 0, 1) := by decide +kernel
theorem d_PR_addSigned_1 : decode b_PR_addSigned 1 = .ok (.getfield 9, 3) := by decide +kernel
theorem d_PR_addSigned_4 : decode b_PR_addSigned 4 = .ok (.aload_n 0, 1) := by decide +kernel
theorem d_PR_addSigned_5 : decode b_PR_addSigned 5 = .ok (.getfield 81, 3) := by decide +kernel
theorem d_PR_addSigned_8 : decode b_PR_addSigned 8 = .ok (.invokevirtual 138, 3) := by decide +kernel
theorem d_PR_addSigned_11 : decode b_PR_addSigned 11 = .ok (.istore_n 3, 1) := by decide +kernel
theorem d_PR_addSigned_12 : decode b_PR_addSigned 12 = .ok (.iload_n 2, 1) := by decide +kernel
theorem d_PR_addSigned_13 : decode b_PR_addSigned 13 = .ok (.iload_n 3, 1) := by decide +kernel
theorem d_PR_addSigned_14 : decode b_PR_addSigned 14 = .ok (.if_icmp .ne 37, 3) := by decide +kernel
theorem d_PR_addSigned_17 : decode b_PR_addSigned 17 = .ok (.aload_n 0, 1) := by decide +kernel
theorem d_PR_addSigned_18 : decode b_PR_addSigned 18 = .ok (.aload_n 0, 1) := by decide +kernel
theorem d_PR_addSigned_19 : decode b_PR_addSigned 19 = .ok (.getfield 30, 3) := by decide +kernel
theorem d_PR_addSigned_22 : decode b_PR_addSigned 22 = .ok (.aload_n 0, 1) := by decide +kernel
theorem d_PR_addSigned_23 : decode b_PR_addSigned 23 = .ok (.getfield 81, 3) := by decide +kernel
theorem d_PR_addSigned_26 : decode b_PR_addSigned 26 = .ok (.iload_n 1, 1) := by decide +kernel
theorem d_PR_addSigned_27 : decode b_PR_addSigned 27 = .ok (.invokevirtual 158, 3) := by decide +kernel
theorem d_PR_addSigned_30 : decode b_PR_addSigned 30 = .ok (.ifCond .ne 10, 3) := by decide +kernel
theorem d_PR_addSigned_33 : decode b_PR_addSigned 33 = .ok (.aload_n 0, 1) := by decide +kernel
theorem d_PR_addSigned_34 : decode b_PR_addSigned 34 = .ok (.getfield 161, 3) := by decide +kernel
theorem d_PR_addSigned_37 : decode b_PR_addSigned 37 = .ok (.ifCond .eq 7, 3) := by decide +kernel
theorem d_PR_addSigned_40 : decode b_PR_addSigned 40 = .ok (.iconst 1, 1) := by decide +kernel
theorem d_PR_addSigned_41 : decode b_PR_addSigned 41 = .ok (.goto 4, 3) := by decide +kernel
theorem d_PR_addSigned_44 : decode b_PR_addSigned 44 = .ok (.iconst 0, 1) := by decide +kernel
theorem d_PR_addSigned_45 : decode b_PR_addSigned 45 = .ok (.putfield 161, 3) := by decide +kernel
theorem d_PR_addSigned_48 : decode b_PR_addSigned 48 = .ok (.goto 55, 3) := by decide +kernel
theorem d_PR_addSigned_51 : decode b_PR_addSigned 51 = .ok (.aload_n 0, 1) := by decide +kernel
theorem d_PR_addSigned_52 : decode b_PR_addSigned 52 = .ok (.getfield 30, 3) := by decide +kernel
theorem d_PR_addSigned_55 : decode b_PR_addSigned 55 = .ok (.aload_n 0, 1) := by decide +kernel
theorem d_PR_addSigned_56 : decode b_PR_addSigned 56 = .ok (.getfield 81, 3) := by decide +kernel
theorem d_PR_addSigned_59 : decode b_PR_addSigned 59 = .ok (.iload_n 1, 1) := by decide +kernel
theorem d_PR_addSigned_60 : decode b_PR_addSigned 60 = .ok (.invokevirtual 165, 3) := by decide +kernel
theorem d_PR_addSigned_63 : decode b_PR_addSigned 63 = .ok (.istore 4, 2) := by decide +kernel
theorem d_PR_addSigned_65 : decode b_PR_addSigned 65 = .ok (.aload_n 0, 1) := by decide +kernel
theorem d_PR_addSigned_66 : decode b_PR_addSigned 66 = .ok (.getfield 30, 3) := by decide +kernel
theorem d_PR_addSigned_69 : decode b_PR_addSigned 69 = .ok (.aload_n 0, 1) := by decide +kernel
theorem d_PR_addSigned_70 : decode b_PR_addSigned 70 = .ok (.getfield 81, 3) := by decide +kernel
theorem d_PR_addSigned_73 : decode b_PR_addSigned 73 = .ok (.iload_n 1, 1) := by decide +kernel
theorem d_PR_addSigned_74 : decode b_PR_addSigned 74 = .ok (.iload 4, 2) := by decide +kernel
theorem d_PR_addSigned_76 : decode b_PR_addSigned 76 = .ok (.invokevirtual 168, 3) := by decide +kernel
theorem d_PR_addSigned_79 : decode b_PR_addSigned 79 = .ok (.aload_n 0, 1) := by decide +kernel
theorem d_PR_addSigned_80 : decode b_PR_addSigned 80 = .ok (.getfield 9, 3) := by decide +kernel
theorem d_PR_addSigned_83 : decode b_PR_addSigned 83 = .ok (.aload_n 0, 1) := by decide +kernel
theorem d_PR_addSigned_84 : decode b_PR_addSigned 84 = .ok (.getfield 81, 3) := by decide +kernel
theorem d_PR_addSigned_87 : decode b_PR_addSigned 87 = .ok (.iload 4, 2) := by decide +kernel
theorem d_PR_addSigned_89 : decode b_PR_addSigned 89 = .ok (.ifCond .eq 7, 3) := by decide +kernel
theorem d_PR_addSigned_92 : decode b_PR_addSigned 92 = .ok (.iload_n 2, 1) := by decide +kernel
theorem d_PR_addSigned_93 : decode b_PR_addSigned 93 = .ok (.goto 4, 3) := by decide +kernel
theorem d_PR_addSigned_96 : decode b_PR_addSigned 96 = .ok (.iload_n 3, 1) := by decide +kernel
theorem d_PR_addSigned_97 : decode b_PR_addSigned 97 = .ok (.invokestatic 148, 3) := by decide +kernel
theorem d_PR_addSigned_100 : decode b_PR_addSigned 100 = .ok (.invokevirtual 151, 3) := by decide +kernel
theorem d_PR_addSigned_103 : decode b_PR_addSigned 103 = .ok (.return_, 1) := by decide +kernel
theorem d_PR_move_0 : decode b_PR_move 0 = .ok (.aload_n 0, 1) := by decide +kernel
theorem d_PR_move_1 : decode b_PR_move 1 = .ok (.getfield 9, 3) := by decide +kernel
theorem d_PR_move_4 : decode b_PR_move 4 = .ok (.aload_n 0, 1) := by decide +kernel
theorem d_PR_move_5 : decode b_PR_move 5 = .ok (.getfield 67, 3) := by decide +kernel
theorem d_PR_move_8 : decode b_PR_move 8 = .ok (.aload_n 0, 1) := by decide +kernel
theorem d_PR_move_9 : decode b_PR_move 9 = .ok (.getfield 81, 3) := by decide +kernel
theorem d_PR_move_12 : decode b_PR_move 12 = .ok (.invokevirtual 172, 3) := by decide +kernel
theorem d_PR_move_15 : decode b_PR_move 15 = .ok (.istore_n 1, 1) := by decide +kernel
theorem d_PR_move_16 : decode b_PR_move 16 = .ok (.iload_n 1, 1) := by decide +kernel
theorem d_PR_move_17 : decode b_PR_move 17 = .ok (.iconst (-1), 1) := by decide +kernel
theorem d_PR_move_18 : decode b_PR_move 18 = .ok (.if_icmp .ne 5, 3) := by decide +kernel
theorem d_PR_move_21 : decode b_PR_move 21 = .ok (.iconst 2, 1) := by decide +kernel
theorem d_PR_move_22 : decode b_PR_move 22 = .ok (.ireturn, 1) := by decide +kernel
theorem d_PR_move_23 : decode b_PR_move 23 = .ok (.iconst 0, 1) := by decide +kernel
theorem d_PR_move_24 : decode b_PR_move 24 = .ok (.istore_n 2, 1) := by decide +kernel
theorem d_PR_move_25 : decode b_PR_move 25 = .ok (.iload_n 2, 1) := by decide +kernel
theorem d_PR_move_26 : decode b_PR_move 26 = .ok (.iload_n 1, 1) := by decide +kernel
theorem d_PR_move_27 : decode b_PR_move 27 = .ok (.if_icmp .ge 35, 3) := by decide +kernel
theorem d_PR_move_30 : decode b_PR_move 30 = .ok (.aload_n 0, 1) := by decide +kernel
theorem d_PR_move_31 : decode b_PR_move 31 = .ok (.getfield 9, 3) := by decide +kernel
theorem d_PR_move_34 : decode b_PR_move 34 = .ok (.aload_n 0, 1) := by decide +kernel
theorem d_PR_move_35 : decode b_PR_move 35 = .ok (.getfield 81, 3) := by decide +kernel
theorem d_PR_move_38 : decode b_PR_move 38 = .ok (.iload_n 2, 1) := by decide +kernel
theorem d_PR_move_39 : decode b_PR_move 39 = .ok (.isub, 1) := by decide +kernel
theorem d_PR_move_40 : decode b_PR_move 40 = .ok (.aload_n 0, 1) := by decide +kernel
theorem d_PR_move_41 : decode b_PR_move 41 = .ok (.getfield 9, 3) := by decide +kernel
theorem d_PR_move_44 : decode b_PR_move 44 = .ok (.aload_n 0, 1) := by decide +kernel
theorem d_PR_move_45 : decode b_PR_move 45 = .ok (.getfield 67, 3) := by decide +kernel
theorem d_PR_move_48 : decode b_PR_move 48 = .ok (.iload_n 2, 1) := by decide +kernel
theorem d_PR_move_49 : decode b_PR_move 49 = .ok (.isub, 1) := by decide +kernel
theorem d_PR_move_50 : decode b_PR_move 50 = .ok (.invokevirtual 56, 3) := by decide +kernel
theorem d_PR_move_53 : decode b_PR_move 53 = .ok (.invokevirtual 175, 3) := by decide +kernel
theorem d_PR_move_56 : decode b_PR_move 56 = .ok (.iinc 2 1, 3) := by decide +kernel
theorem d_PR_move_59 : decode b_PR_move 59 = .ok (.goto (-34), 3) := by decide +kernel
theorem d_PR_move_62 : decode b_PR_move 62 = .ok (.aload_n 0, 1) := by decide +kernel
theorem d_PR_move_63 : decode b_PR_move 63 = .ok (.dup, 1) := by decide +kernel
theorem d_PR_move_64 : decode b_PR_move 64 = .ok (.getfield 67, 3) := by decide +kernel
theorem d_PR_move_67 : decode b_PR_move 67 = .ok (.iload_n 1, 1) := by decide +kernel
theorem d_PR_move_68 : decode b_PR_move 68 = .ok (.isub, 1) := by decide +kernel
theorem d_PR_move_69 : decode b_PR_move 69 = .ok (.putfield 67, 3) := by decide +kernel
theorem d_PR_move_72 : decode b_PR_move 72 = .ok (.aload_n 0, 1) := by decide +kernel
theorem d_PR_move_73 : decode b_PR_move 73 = .ok (.dup, 1) := by decide +kernel
theorem d_PR_move_74 : decode b_PR_move 74 = .ok (.getfield 81, 3) := by decide +kernel
theorem d_PR_move_77 : decode b_PR_move 77 = .ok (.iload_n 1, 1) := by decide +kernel
theorem d_PR_move_78 : decode b_PR_move 78 = .ok (.isub, 1) := by decide +kernel
theorem d_PR_move_79 : decode b_PR_move 79 = .ok (.putfield 81, 3) := by decide +kernel
theorem d_PR_move_82 : decode b_PR_move 82 = .ok (.iconst 0, 1) := by decide +kernel
theorem d_PR_move_83 : decode b_PR_move 83 = .ok (.ireturn, 1) := by decide +kernel
theorem d_PR_load_0 : decode b_PR_load 0 = .ok (.aload_n 0, 1) := by decide +kernel
theorem d_PR_load_1 : decode b_PR_load 1 = .ok (.getfield 9, 3) := by decide +kernel
theorem d_PR_load_4 : decode b_PR_load 4 = .ok (.aload_n 0, 1) := by decide +kernel
theorem d_PR_load_5 : decode b_PR_load 5 = .ok (.getfield 67, 3) := by decide +kernel
theorem d_PR_load_8 : decode b_PR_load 8 = .ok (.invokevirtual 132, 3) := by decide +kernel
theorem d_PR_load_11 : decode b_PR_load 11 = .ok (.istore_n 1, 1) := by decide +kernel
theorem d_PR_load_12 : decode b_PR_load 12 = .ok (.iload_n 1, 1) := by decide +kernel
theorem d_PR_load_13 : decode b_PR_load 13 = .ok (.iconst (-1), 1) := by decide +kernel
theorem d_PR_load_14 : decode b_PR_load 14 = .ok (.if_icmp .eq 18, 3) := by decide +kernel
theorem d_PR_load_17 : decode b_PR_load 17 = .ok (.aload_n 0, 1) := by decide +kernel
theorem d_PR_load_18 : decode b_PR_load 18 = .ok (.getfield 9, 3) := by decide +kernel
theorem d_PR_load_21 : decode b_PR_load 21 = .ok (.aload_n 0, 1) := by decide +kernel
theorem d_PR_load_22 : decode b_PR_load 22 = .ok (.getfield 81, 3) := by decide +kernel
theorem d_PR_load_25 : decode b_PR_load 25 = .ok (.iload_n 1, 1) := by decide +kernel
theorem d_PR_load_26 : decode b_PR_load 26 = .ok (.invokevirtual 178, 3) := by decide +kernel
theorem d_PR_load_29 : decode b_PR_load 29 = .ok (.ifCond .ne 5, 3) := by decide +kernel
theorem d_PR_load_32 : decode b_PR_load 32 = .ok (.iconst 2, 1) := by decide +kernel
theorem d_PR_load_33 : decode b_PR_load 33 = .ok (.ireturn, 1) := by decide +kernel
theorem d_PR_load_34 : decode b_PR_load 34 = .ok (.aload_n 0, 1) := by decide +kernel
theorem d_PR_load_35 : decode b_PR_load 35 = .ok (.getfield 9, 3) := by decide +kernel
theorem d_PR_load_38 : decode b_PR_load 38 = .ok (.aload_n 0, 1) := by decide +kernel
theorem d_PR_load_39 : decode b_PR_load 39 = .ok (.getfield 67, 3) := by decide +kernel
theorem d_PR_load_42 : decode b_PR_load 42 = .ok (.aload_n 0, 1) := by decide +kernel
theorem d_PR_load_43 : decode b_PR_load 43 = .ok (.getfield 81, 3) := by decide +kernel
theorem d_PR_load_46 : decode b_PR_load 46 = .ok (.iload_n 1, 1) := by decide +kernel
theorem d_PR_load_47 : decode b_PR_load 47 = .ok (.invokevirtual 181, 3) := by decide +kernel
theorem d_PR_load_50 : decode b_PR_load 50 = .ok (.aload_n 0, 1) := by decide +kernel
theorem d_PR_load_51 : decode b_PR_load 51 = .ok (.dup, 1) := by decide +kernel
theorem d_PR_load_52 : decode b_PR_load 52 = .ok (.getfield 67, 3) := by decide +kernel
theorem d_PR_load_55 : decode b_PR_load 55 = .ok (.iload_n 1, 1) := by decide +kernel
theorem d_PR_load_56 : decode b_PR_load 56 = .ok (.isub, 1) := by decide +kernel
theorem d_PR_load_57 : decode b_PR_load 57 = .ok (.putfield 67, 3) := by decide +kernel
theorem d_PR_load_60 : decode b_PR_load 60 = .ok (.aload_n 0, 1) := by decide +kernel
theorem d_PR_load_61 : decode b_PR_load 61 = .ok (.dup, 1) := by decide +kernel
theorem d_PR_load_62 : decode b_PR_load 62 = .ok (.getfield 81, 3) := by decide +kernel
theorem d_PR_load_65 : decode b_PR_load 65 = .ok (.iload_n 1, 1) := by decide +kernel
theorem d_PR_load_66 : decode b_PR_load 66 = .ok (.isub, 1) := by decide +kernel
theorem d_PR_load_67 : decode b_PR_load 67 = .ok (.putfield 81, 3) := by decide +kernel
theorem d_PR_load_70 : decode b_PR_load 70 = .ok (.iconst 0, 1) := by decide +kernel
theorem d_PR_load_71 : decode b_PR_load 71 = .ok (.ireturn, 1) := by decide +kernel
theorem d_PR_moveBits_0 : decode b_PR_moveBits 0 = .ok (.aload_n 0, 1) := by decide +kernel
theorem d_PR_moveBits_1 : decode b_PR_moveBits 1 = .ok (.getfield 9, 3) := by decide +kernel
theorem d_PR_moveBits_4 : decode b_PR_moveBits 4 = .ok (.aload_n 0, 1) := by decide +kernel
theorem d_PR_moveBits_5 : decode b_PR_moveBits 5 = .ok (.getfield 67, 3) := by decide +kernel
theorem d_PR_moveBits_8 : decode b_PR_moveBits 8 = .ok (.invokevirtual 47, 3) := by decide +kernel
theorem d_PR_moveBits_11 : decode b_PR_moveBits 11 = .ok (.ifCond .eq 17, 3) := by decide +kernel
theorem d_PR_moveBits_14 : decode b_PR_moveBits 14 = .ok (.aload_n 0, 1) := by decide +kernel
theorem d_PR_moveBits_15 : decode b_PR_moveBits 15 = .ok (.getfield 9, 3) := by decide +kernel
theorem d_PR_moveBits_18 : decode b_PR_moveBits 18 = .ok (.aload_n 0, 1) := by decide +kernel
theorem d_PR_moveBits_19 : decode b_PR_moveBits 19 = .ok (.getfield 81, 3) := by decide +kernel
theorem d_PR_moveBits_22 : decode b_PR_moveBits 22 = .ok (.invokevirtual 47, 3) := by decide +kernel
theorem d_PR_moveBits_25 : decode b_PR_moveBits 25 = .ok (.ifCond .ne 5, 3) := by decide +kernel
theorem d_PR_moveBits_28 : decode b_PR_moveBits 28 = .ok (.iconst 2, 1) := by decide +kernel
theorem d_PR_moveBits_29 : decode b_PR_moveBits 29 = .ok (.ireturn, 1) := by decide +kernel
theorem d_PR_moveBits_30 : decode b_PR_moveBits 30 = .ok (.aload_n 0, 1) := by decide +kernel
theorem d_PR_moveBits_31 : decode b_PR_moveBits 31 = .ok (.getfield 9, 3) := by decide +kernel
theorem d_PR_moveBits_34 : decode b_PR_moveBits 34 = .ok (.aload_n 0, 1) := by decide +kernel
theorem d_PR_moveBits_35 : decode b_PR_moveBits 35 = .ok (.getfield 81, 3) := by decide +kernel
theorem d_PR_moveBits_38 : decode b_PR_moveBits 38 = .ok (.aload_n 0, 1) := by decide +kernel
theorem d_PR_moveBits_39 : decode b_PR_moveBits 39 = .ok (.getfield 9, 3) := by decide +kernel
theorem d_PR_moveBits_42 : decode b_PR_moveBits 42 = .ok (.aload_n 0, 1) := by decide +kernel
theorem d_PR_moveBits_43 : decode b_PR_moveBits 43 = .ok (.getfield 81, 3) := by decide +kernel
theorem d_PR_moveBits_46 : decode b_PR_moveBits 46 = .ok (.invokevirtual 56, 3) := by decide +kernel
theorem d_PR_moveBits_49 : decode b_PR_moveBits 49 = .ok (.iload_n 1, 1) := by decide +kernel
theorem d_PR_moveBits_50 : decode b_PR_moveBits 50 = .ok (.iconst (-1), 1) := by decide +kernel
theorem d_PR_moveBits_51 : decode b_PR_moveBits 51 = .ok (.ixor, 1) := by decide +kernel
theorem d_PR_moveBits_52 : decode b_PR_moveBits 52 = .ok (.iand, 1) := by decide +kernel
theorem d_PR_moveBits_53 : decode b_PR_moveBits 53 = .ok (.aload_n 0, 1) := by decide +kernel
theorem d_PR_moveBits_54 : decode b_PR_moveBits 54 = .ok (.getfield 9, 3) := by decide +kernel
theorem d_PR_moveBits_57 : decode b_PR_moveBits 57 = .ok (.aload_n 0, 1) := by decide +kernel
theorem d_PR_moveBits_58 : decode b_PR_moveBits 58 = .ok (.getfield 67, 3) := by decide +kernel
theorem d_PR_moveBits_61 : decode b_PR_moveBits 61 = .ok (.invokevirtual 56, 3) := by decide +kernel
theorem d_PR_moveBits_64 : decode b_PR_moveBits 64 = .ok (.iload_n 1, 1) := by decide +kernel
theorem d_PR_moveBits_65 : decode b_PR_moveBits 65 = .ok (.iand, 1) := by decide +kernel
theorem d_PR_moveBits_66 : decode b_PR_moveBits 66 = .ok (.ior, 1) := by decide +kernel
theorem d_PR_moveBits_67 : decode b_PR_moveBits 67 = .ok (.invokevirtual 175, 3) := by decide +kernel
theorem d_PR_moveBits_70 : decode b_PR_moveBits 70 = .ok (.aload_n 0, 1) := by decide +kernel
theorem d_PR_moveBits_71 : decode b_PR_moveBits 71 = .ok (.dup, 1) := by decide +kernel
theorem d_PR_moveBits_72 : decode b_PR_moveBits 72 = .ok (.getfield 67, 3) := by decide +kernel
theorem d_PR_moveBits_75 : decode b_PR_moveBits 75 = .ok (.iconst 1, 1) := by decide +kernel
theorem d_PR_moveBits_76 : decode b_PR_moveBits 76 = .ok (.isub, 1) := by decide +kernel
theorem d_PR_moveBits_77 : decode b_PR_moveBits 77 = .ok (.putfield 67, 3) := by decide +kernel
theorem d_PR_moveBits_80 : decode b_PR_moveBits 80 = .ok (.aload_n 0, 1) := by decide +kernel
theorem d_PR_moveBits_81 : decode b_PR_moveBits 81 = .ok (.dup, 1) := by decide +kernel
theorem d_PR_moveBits_82 : decode b_PR_moveBits 82 = .ok (.getfield 81, 3) := by decide +kernel
theorem d_PR_moveBits_85 : decode b_PR_moveBits 85 = .ok (.iconst 1, 1) := by decide +kernel
theorem d_PR_moveBits_86 : decode b_PR_moveBits 86 = .ok (.isub, 1) := by decide +kernel
theorem d_PR_moveBits_87 : decode b_PR_moveBits 87 = .ok (.putfield 81, 3) := by decide +kernel
theorem d_PR_moveBits_90 : decode b_PR_moveBits 90 = .ok (.iconst 0, 1) := by decide +kernel
theorem d_PR_moveBits_91 : decode b_PR_moveBits 91 = .ok (.ireturn, 1) := by decide +kernel
theorem d_PR_compare_0 : decode b_PR_compare 0 = .ok (.aload_n 0, 1) := by decide +kernel
theorem d_PR_compare_1 : decode b_PR_compare 1 = .ok (.getfield 9, 3) := by decide +kernel
theorem d_PR_compare_4 : decode b_PR_compare 4 = .ok (.aload_n 0, 1) := by decide +kernel
theorem d_PR_compare_5 : decode b_PR_compare 5 = .ok (.getfield 67, 3) := by decide +kernel
theorem d_PR_compare_8 : decode b_PR_compare 8 = .ok (.aload_n 0, 1) := by decide +kernel
theorem d_PR_compare_9 : decode b_PR_compare 9 = .ok (.getfield 81, 3) := by decide +kernel
theorem d_PR_compare_12 : decode b_PR_compare 12 = .ok (.invokevirtual 172, 3) := by decide +kernel
theorem d_PR_compare_15 : decode b_PR_compare 15 = .ok (.istore_n 1, 1) := by decide +kernel
theorem d_PR_compare_16 : decode b_PR_compare 16 = .ok (.iload_n 1, 1) := by decide +kernel
theorem d_PR_compare_17 : decode b_PR_compare 17 = .ok (.iconst (-1), 1) := by decide +kernel
theorem d_PR_compare_18 : decode b_PR_compare 18 = .ok (.if_icmp .ne 5, 3) := by decide +kernel
theorem d_PR_compare_21 : decode b_PR_compare 21 = .ok (.iconst 2, 1) := by decide +kernel
theorem d_PR_compare_22 : decode b_PR_compare 22 = .ok (.ireturn, 1) := by decide +kernel
theorem d_PR_compare_23 : decode b_PR_compare 23 = .ok (.aload_n 0, 1) := by decide +kernel
theorem d_PR_compare_24 : decode b_PR_compare 24 = .ok (.aload_n 0, 1) := by decide +kernel
theorem d_PR_compare_25 : decode b_PR_compare 25 = .ok (.getfield 9, 3) := by decide +kernel
theorem d_PR_compare_28 : decode b_PR_compare 28 = .ok (.aload_n 0, 1) := by decide +kernel
theorem d_PR_compare_29 : decode b_PR_compare 29 = .ok (.getfield 81, 3) := by decide +kernel
theorem d_PR_compare_32 : decode b_PR_compare 32 = .ok (.iload_n 1, 1) := by decide +kernel
theorem d_PR_compare_33 : decode b_PR_compare 33 = .ok (.isub, 1) := by decide +kernel
theorem d_PR_compare_34 : decode b_PR_compare 34 = .ok (.iconst 1, 1) := by decide +kernel
theorem d_PR_compare_35 : decode b_PR_compare 35 = .ok (.iadd, 1) := by decide +kernel
theorem d_PR_compare_36 : decode b_PR_compare 36 = .ok (.invokevirtual 53, 3) := by decide +kernel
theorem d_PR_compare_39 : decode b_PR_compare 39 = .ok (.ifCond .eq 11, 3) := by decide +kernel
theorem d_PR_compare_42 : decode b_PR_compare 42 = .ok (.aload_n 0, 1) := by decide +kernel
theorem d_PR_compare_43 : decode b_PR_compare 43 = .ok (.iload_n 1, 1) := by decide +kernel
theorem d_PR_compare_44 : decode b_PR_compare 44 = .ok (.invokevirtual 184, 3) := by decide +kernel
theorem d_PR_compare_47 : decode b_PR_compare 47 = .ok (.goto 4, 3) := by decide +kernel
theorem d_PR_compare_50 : decode b_PR_compare 50 = .ok (.iconst 1, 1) := by decide +kernel
theorem d_PR_compare_51 : decode b_PR_compare 51 = .ok (.putfield 187, 3) := by decide +kernel
theorem d_PR_compare_54 : decode b_PR_compare 54 = .ok (.aload_n 0, 1) := by decide +kernel
theorem d_PR_compare_55 : decode b_PR_compare 55 = .ok (.dup, 1) := by decide +kernel
theorem d_PR_compare_56 : decode b_PR_compare 56 = .ok (.getfield 67, 3) := by decide +kernel
theorem d_PR_compare_59 : decode b_PR_compare 59 = .ok (.iload_n 1, 1) := by decide +kernel
theorem d_PR_compare_60 : decode b_PR_compare 60 = .ok (.isub, 1) := by decide +kernel
theorem d_PR_compare_61 : decode b_PR_compare 61 = .ok (.putfield 67, 3) := by decide +kernel
theorem d_PR_compare_64 : decode b_PR_compare 64 = .ok (.aload_n 0, 1) := by decide +kernel
theorem d_PR_compare_65 : decode b_PR_compare 65 = .ok (.dup, 1) := by decide +kernel
theorem d_PR_compare_66 : decode b_PR_compare 66 = .ok (.getfield 81, 3) := by decide +kernel
theorem d_PR_compare_69 : decode b_PR_compare 69 = .ok (.iload_n 1, 1) := by decide +kernel
theorem d_PR_compare_70 : decode b_PR_compare 70 = .ok (.isub, 1) := by decide +kernel
theorem d_PR_compare_71 : decode b_PR_compare 71 = .ok (.putfield 81, 3) := by decide +kernel
theorem d_PR_compare_74 : decode b_PR_compare 74 = .ok (.iconst 0, 1) := by decide +kernel
theorem d_PR_compare_75 : decode b_PR_compare 75 = .ok (.ireturn, 1) := by decide +kernel
theorem d_PR_orderOf_0 : decode b_PR_orderOf 0 = .ok (.iload_n 1, 1) := by decide +kernel
theorem d_PR_orderOf_1 : decode b_PR_orderOf 1 = .ok (.iconst 1, 1) := by decide +kernel
theorem d_PR_orderOf_2 : decode b_PR_orderOf 2 = .ok (.isub, 1) := by decide +kernel
theorem d_PR_orderOf_3 : decode b_PR_orderOf 3 = .ok (.istore_n 2, 1) := by decide +kernel
theorem d_PR_orderOf_4 : decode b_PR_orderOf 4 = .ok (.iload_n 2, 1) := by decide +kernel
theorem d_PR_orderOf_5 : decode b_PR_orderOf 5 = .ok (.ifCond .lt 51, 3) := by decide +kernel
theorem d_PR_orderOf_8 : decode b_PR_orderOf 8 = .ok (.aload_n 0, 1) := by decide +kernel
theorem d_PR_orderOf_9 : decode b_PR_orderOf 9 = .ok (.getfield 9, 3) := by decide +kernel
theorem d_PR_orderOf_12 : decode b_PR_orderOf 12 = .ok (.aload_n 0, 1) := by decide +kernel
theorem d_PR_orderOf_13 : decode b_PR_orderOf 13 = .ok (.getfield 81, 3) := by decide +kernel
theorem d_PR_orderOf_16 : decode b_PR_orderOf 16 = .ok (.iload_n 2, 1) := by decide +kernel
theorem d_PR_orderOf_17 : decode b_PR_orderOf 17 = .ok (.isub, 1) := by decide +kernel
theorem d_PR_orderOf_18 : decode b_PR_orderOf 18 = .ok (.invokevirtual 56, 3) := by decide +kernel
theorem d_PR_orderOf_21 : decode b_PR_orderOf 21 = .ok (.invokestatic 190, 3) := by decide +kernel
theorem d_PR_orderOf_24 : decode b_PR_orderOf 24 = .ok (.aload_n 0, 1) := by decide +kernel
theorem d_PR_orderOf_25 : decode b_PR_orderOf 25 = .ok (.getfield 9, 3) := by decide +kernel
theorem d_PR_orderOf_28 : decode b_PR_orderOf 28 = .ok (.aload_n 0, 1) := by decide +kernel
theorem d_PR_orderOf_29 : decode b_PR_orderOf 29 = .ok (.getfield 67, 3) := by decide +kernel
theorem d_PR_orderOf_32 : decode b_PR_orderOf 32 = .ok (.iload_n 2, 1) := by decide +kernel
theorem d_PR_orderOf_33 : decode b_PR_orderOf 33 = .ok (.isub, 1) := by decide +kernel
theorem d_PR_orderOf_34 : decode b_PR_orderOf 34 = .ok (.invokevirtual 56, 3) := by decide +kernel
theorem d_PR_orderOf_37 : decode b_PR_orderOf 37 = .ok (.invokestatic 190, 3) := by decide +kernel
theorem d_PR_orderOf_40 : decode b_PR_orderOf 40 = .ok (.invokestatic 193, 3) := by decide +kernel
theorem d_PR_orderOf_43 : decode b_PR_orderOf 43 = .ok (.istore_n 3, 1) := by decide +kernel
theorem d_PR_orderOf_44 : decode b_PR_orderOf 44 = .ok (.iload_n 3, 1) := by decide +kernel
theorem d_PR_orderOf_45 : decode b_PR_orderOf 45 = .ok (.ifCond .eq 5, 3) := by decide +kernel
theorem d_PR_orderOf_48 : decode b_PR_orderOf 48 = .ok (.iload_n 3, 1) := by decide +kernel
theorem d_PR_orderOf_49 : decode b_PR_orderOf 49 = .ok (.ireturn, 1) := by decide +kernel
theorem d_PR_orderOf_50 : decode b_PR_orderOf 50 = .ok (.iinc 2 (-1), 3) := by decide +kernel
theorem d_PR_orderOf_53 : decode b_PR_orderOf 53 = .ok (.goto (-49), 3) := by decide +kernel
theorem d_PR_orderOf_56 : decode b_PR_orderOf 56 = .ok (.iconst 0, 1) := by decide +kernel
theorem d_PR_orderOf_57 : decode b_PR_orderOf 57 = .ok (.ireturn, 1) := by decide +kernel
theorem d_PR_rank_0 : decode b_PR_rank 0 = .ok (.iload_n 0, 1) := by decide +kernel
theorem d_PR_rank_1 : decode b_PR_rank 1 = .ok (.bipush 15, 2) := by decide +kernel
theorem d_PR_rank_3 : decode b_PR_rank 3 = .ok (.iand, 1) := by decide +kernel
theorem d_PR_rank_4 : decode b_PR_rank 4 = .ok (.istore_n 1, 1) := by decide +kernel
theorem d_PR_rank_5 : decode b_PR_rank 5 = .ok (.iload_n 1, 1) := by decide +kernel
theorem d_PR_rank_6 : decode b_PR_rank 6 = .ok (.ifCond .eq 9, 3) := by decide +kernel
theorem d_PR_rank_9 : decode b_PR_rank 9 = .ok (.iload_n 1, 1) := by decide +kernel
theorem d_PR_rank_10 : decode b_PR_rank 10 = .ok (.bipush 10, 2) := by decide +kernel
theorem d_PR_rank_12 : decode b_PR_rank 12 = .ok (.if_icmp .le 7, 3) := by decide +kernel
theorem d_PR_rank_15 : decode b_PR_rank 15 = .ok (.iconst 1, 1) := by decide +kernel
theorem d_PR_rank_16 : decode b_PR_rank 16 = .ok (.goto 4, 3) := by decide +kernel
theorem d_PR_rank_19 : decode b_PR_rank 19 = .ok (.iconst 0, 1) := by decide +kernel
theorem d_PR_rank_20 : decode b_PR_rank 20 = .ok (.istore_n 2, 1) := by decide +kernel
theorem d_PR_rank_21 : decode b_PR_rank 21 = .ok (.iload_n 1, 1) := by decide +kernel
theorem d_PR_rank_22 : decode b_PR_rank 22 = .ok (.bipush 10, 2) := by decide +kernel
theorem d_PR_rank_24 : decode b_PR_rank 24 = .ok (.if_icmp .ne 7, 3) := by decide +kernel
theorem d_PR_rank_27 : decode b_PR_rank 27 = .ok (.iconst 0, 1) := by decide +kernel
theorem d_PR_rank_28 : decode b_PR_rank 28 = .ok (.goto 4, 3) := by decide +kernel
theorem d_PR_rank_31 : decode b_PR_rank 31 = .ok (.iload_n 1, 1) := by decide +kernel
theorem d_PR_rank_32 : decode b_PR_rank 32 = .ok (.istore_n 3, 1) := by decide +kernel
theorem d_PR_rank_33 : decode b_PR_rank 33 = .ok (.bipush 48, 2) := by decide +kernel
theorem d_PR_rank_35 : decode b_PR_rank 35 = .ok (.iload_n 0, 1) := by decide +kernel
theorem d_PR_rank_36 : decode b_PR_rank 36 = .ok (.bipush 48, 2) := by decide +kernel
theorem d_PR_rank_38 : decode b_PR_rank 38 = .ok (.iand, 1) := by decide +kernel
theorem d_PR_rank_39 : decode b_PR_rank 39 = .ok (.isub, 1) := by decide +kernel
theorem d_PR_rank_40 : decode b_PR_rank 40 = .ok (.istore 4, 2) := by decide +kernel
theorem d_PR_rank_42 : decode b_PR_rank 42 = .ok (.iload_n 2, 1) := by decide +kernel
theorem d_PR_rank_43 : decode b_PR_rank 43 = .ok (.ifCond .eq 7, 3) := by decide +kernel
theorem d_PR_rank_46 : decode b_PR_rank 46 = .ok (.iconst 0, 1) := by decide +kernel
theorem d_PR_rank_47 : decode b_PR_rank 47 = .ok (.goto 5, 3) := by decide +kernel
theorem d_PR_rank_50 : decode b_PR_rank 50 = .ok (.bipush 64, 2) := by decide +kernel
theorem d_PR_rank_52 : decode b_PR_rank 52 = .ok (.iload 4, 2) := by decide +kernel
theorem d_PR_rank_54 : decode b_PR_rank 54 = .ok (.iadd, 1) := by decide +kernel
theorem d_PR_rank_55 : decode b_PR_rank 55 = .ok (.iload_n 3, 1) := by decide +kernel
theorem d_PR_rank_56 : decode b_PR_rank 56 = .ok (.iadd, 1) := by decide +kernel
theorem d_PR_rank_57 : decode b_PR_rank 57 = .ok (.ireturn, 1) := by decide +kernel
theorem d_PR_changeMarks_0 : decode b_PR_changeMarks 0 = .ok (.aload_n 0, 1) := by decide +kernel
theorem d_PR_changeMarks_1 : decode b_PR_changeMarks 1 = .ok (.getfield 9, 3) := by decide +kernel
theorem d_PR_changeMarks_4 : decode b_PR_changeMarks 4 = .ok (.aload_n 0, 1) := by decide +kernel
theorem d_PR_changeMarks_5 : decode b_PR_changeMarks 5 = .ok (.getfield 67, 3) := by decide +kernel
theorem d_PR_changeMarks_8 : decode b_PR_changeMarks 8 = .ok (.invokevirtual 47, 3) := by decide +kernel
theorem d_PR_changeMarks_11 : decode b_PR_changeMarks 11 = .ok (.ifCond .eq 17, 3) := by decide +kernel
theorem d_PR_changeMarks_14 : decode b_PR_changeMarks 14 = .ok (.aload_n 0, 1) := by decide +kernel
theorem d_PR_changeMarks_15 : decode b_PR_changeMarks 15 = .ok (.getfield 9, 3) := by decide +kernel
theorem d_PR_changeMarks_18 : decode b_PR_changeMarks 18 = .ok (.aload_n 0, 1) := by decide +kernel
theorem d_PR_changeMarks_19 : decode b_PR_changeMarks 19 = .ok (.getfield 81, 3) := by decide +kernel
theorem d_PR_changeMarks_22 : decode b_PR_changeMarks 22 = .ok (.invokevirtual 47, 3) := by decide +kernel
theorem d_PR_changeMarks_25 : decode b_PR_changeMarks 25 = .ok (.ifCond .ne 5, 3) := by decide +kernel
theorem d_PR_changeMarks_28 : decode b_PR_changeMarks 28 = .ok (.iconst 2, 1) := by decide +kernel
theorem d_PR_changeMarks_29 : decode b_PR_changeMarks 29 = .ok (.ireturn, 1) := by decide +kernel
theorem d_PR_changeMarks_30 : decode b_PR_changeMarks 30 = .ok (.aload_n 0, 1) := by decide +kernel
theorem d_PR_changeMarks_31 : decode b_PR_changeMarks 31 = .ok (.getfield 9, 3) := by decide +kernel
theorem d_PR_changeMarks_34 : decode b_PR_changeMarks 34 = .ok (.aload_n 0, 1) := by decide +kernel
theorem d_PR_changeMarks_35 : decode b_PR_changeMarks 35 = .ok (.getfield 67, 3) := by decide +kernel
theorem d_PR_changeMarks_38 : decode b_PR_changeMarks 38 = .ok (.iload_n 1, 1) := by decide +kernel
theorem d_PR_changeMarks_39 : decode b_PR_changeMarks 39 = .ok (.invokevirtual 197, 3) := by decide +kernel
theorem d_PR_changeMarks_42 : decode b_PR_changeMarks 42 = .ok (.aload_n 0, 1) := by decide +kernel
theorem d_PR_changeMarks_43 : decode b_PR_changeMarks 43 = .ok (.getfield 9, 3) := by decide +kernel
theorem d_PR_changeMarks_46 : decode b_PR_changeMarks 46 = .ok (.aload_n 0, 1) := by decide +kernel
theorem d_PR_changeMarks_47 : decode b_PR_changeMarks 47 = .ok (.getfield 81, 3) := by decide +kernel
theorem d_PR_changeMarks_50 : decode b_PR_changeMarks 50 = .ok (.iload_n 1, 1) := by decide +kernel
theorem d_PR_changeMarks_51 : decode b_PR_changeMarks 51 = .ok (.invokevirtual 197, 3) := by decide +kernel
theorem d_PR_changeMarks_54 : decode b_PR_changeMarks 54 = .ok (.aload_n 0, 1) := by decide +kernel
theorem d_PR_changeMarks_55 : decode b_PR_changeMarks 55 = .ok (.dup, 1) := by decide +kernel
theorem d_PR_changeMarks_56 : decode b_PR_changeMarks 56 = .ok (.getfield 67, 3) := by decide +kernel
theorem d_PR_changeMarks_59 : decode b_PR_changeMarks 59 = .ok (.iconst 1, 1) := by decide +kernel
theorem d_PR_changeMarks_60 : decode b_PR_changeMarks 60 = .ok (.isub, 1) := by decide +kernel
theorem d_PR_changeMarks_61 : decode b_PR_changeMarks 61 = .ok (.putfield 67, 3) := by decide +kernel
theorem d_PR_changeMarks_64 : decode b_PR_changeMarks 64 = .ok (.aload_n 0, 1) := by decide +kernel
theorem d_PR_changeMarks_65 : decode b_PR_changeMarks 65 = .ok (.dup, 1) := by decide +kernel
theorem d_PR_changeMarks_66 : decode b_PR_changeMarks 66 = .ok (.getfield 81, 3) := by decide +kernel
theorem d_PR_changeMarks_69 : decode b_PR_changeMarks 69 = .ok (.iconst 1, 1) := by decide +kernel
theorem d_PR_changeMarks_70 : decode b_PR_changeMarks 70 = .ok (.isub, 1) := by decide +kernel
theorem d_PR_changeMarks_71 : decode b_PR_changeMarks 71 = .ok (.putfield 81, 3) := by decide +kernel
theorem d_PR_changeMarks_74 : decode b_PR_changeMarks 74 = .ok (.iconst 0, 1) := by decide +kernel
theorem d_PR_changeMarks_75 : decode b_PR_changeMarks 75 = .ok (.ireturn, 1) := by decide +kernel
theorem d_PR_clear_0 : decode b_PR_clear 0 = .ok (.aload_n 0, 1) := by decide +kernel
theorem d_PR_clear_1 : decode b_PR_clear 1 = .ok (.getfield 9, 3) := by decide +kernel
theorem d_PR_clear_4 : decode b_PR_clear 4 = .ok (.aload_n 0, 1) := by decide +kernel
theorem d_PR_clear_5 : decode b_PR_clear 5 = .ok (.getfield 81, 3) := by decide +kernel
theorem d_PR_clear_8 : decode b_PR_clear 8 = .ok (.invokevirtual 47, 3) := by decide +kernel
theorem d_PR_clear_11 : decode b_PR_clear 11 = .ok (.ifCond .ne 5, 3) := by decide +kernel
theorem d_PR_clear_14 : decode b_PR_clear 14 = .ok (.iconst 2, 1) := by decide +kernel
theorem d_PR_clear_15 : decode b_PR_clear 15 = .ok (.ireturn, 1) := by decide +kernel
theorem d_PR_clear_16 : decode b_PR_clear 16 = .ok (.aload_n 0, 1) := by decide +kernel
theorem d_PR_clear_17 : decode b_PR_clear 17 = .ok (.getfield 81, 3) := by decide +kernel
theorem d_PR_clear_20 : decode b_PR_clear 20 = .ok (.aload_n 0, 1) := by decide +kernel
theorem d_PR_clear_21 : decode b_PR_clear 21 = .ok (.getfield 81, 3) := by decide +kernel
theorem d_PR_clear_24 : decode b_PR_clear 24 = .ok (.bipush 100, 2) := by decide +kernel
theorem d_PR_clear_26 : decode b_PR_clear 26 = .ok (.irem, 1) := by decide +kernel
theorem d_PR_clear_27 : decode b_PR_clear 27 = .ok (.isub, 1) := by decide +kernel
theorem d_PR_clear_28 : decode b_PR_clear 28 = .ok (.istore_n 2, 1) := by decide +kernel
theorem d_PR_clear_29 : decode b_PR_clear 29 = .ok (.aload_n 0, 1) := by decide +kernel
theorem d_PR_clear_30 : decode b_PR_clear 30 = .ok (.getfield 81, 3) := by decide +kernel
theorem d_PR_clear_33 : decode b_PR_clear 33 = .ok (.istore_n 3, 1) := by decide +kernel
theorem d_PR_clear_34 : decode b_PR_clear 34 = .ok (.iload_n 3, 1) := by decide +kernel
theorem d_PR_clear_35 : decode b_PR_clear 35 = .ok (.iload_n 2, 1) := by decide +kernel
theorem d_PR_clear_36 : decode b_PR_clear 36 = .ok (.if_icmp .lt 19, 3) := by decide +kernel
theorem d_PR_clear_39 : decode b_PR_clear 39 = .ok (.aload_n 0, 1) := by decide +kernel
theorem d_PR_clear_40 : decode b_PR_clear 40 = .ok (.getfield 9, 3) := by decide +kernel
theorem d_PR_clear_43 : decode b_PR_clear 43 = .ok (.iload_n 3, 1) := by decide +kernel
theorem d_PR_clear_44 : decode b_PR_clear 44 = .ok (.iconst 0, 1) := by decide +kernel
theorem d_PR_clear_45 : decode b_PR_clear 45 = .ok (.iconst 0, 1) := by decide +kernel
theorem d_PR_clear_46 : decode b_PR_clear 46 = .ok (.invokevirtual 200, 3) := by decide +kernel
theorem d_PR_clear_49 : decode b_PR_clear 49 = .ok (.iinc 3 (-1), 3) := by decide +kernel
theorem d_PR_clear_52 : decode b_PR_clear 52 = .ok (.goto (-18), 3) := by decide +kernel
theorem d_PR_clear_55 : decode b_PR_clear 55 = .ok (.aload_n 0, 1) := by decide +kernel
theorem d_PR_clear_56 : decode b_PR_clear 56 = .ok (.iload_n 2, 1) := by decide +kernel
theorem d_PR_clear_57 : decode b_PR_clear 57 = .ok (.iconst 1, 1) := by decide +kernel
theorem d_PR_clear_58 : decode b_PR_clear 58 = .ok (.isub, 1) := by decide +kernel
theorem d_PR_clear_59 : decode b_PR_clear 59 = .ok (.putfield 81, 3) := by decide +kernel
theorem d_PR_clear_62 : decode b_PR_clear 62 = .ok (.iload_n 1, 1) := by decide +kernel
theorem d_PR_clear_63 : decode b_PR_clear 63 = .ok (.ifCond .eq 7, 3) := by decide +kernel
theorem d_PR_clear_66 : decode b_PR_clear 66 = .ok (.aload_n 0, 1) := by decide +kernel
theorem d_PR_clear_67 : decode b_PR_clear 67 = .ok (.invokevirtual 203, 3) := by decide +kernel
theorem d_PR_clear_70 : decode b_PR_clear 70 = .ok (.iconst 0, 1) := by decide +kernel
theorem d_PR_clear_71 : decode b_PR_clear 71 = .ok (.ireturn, 1) := by decide +kernel
theorem d_PR_suppressZeros_0 : decode b_PR_suppressZeros 0 = .ok (.aload_n 0, 1) := by decide +kernel
theorem d_PR_suppressZeros_1 : decode b_PR_suppressZeros 1 = .ok (.getfield 9, 3) := by decide +kernel
theorem d_PR_suppressZeros_4 : decode b_PR_suppressZeros 4 = .ok (.aload_n 0, 1) := by decide +kernel
theorem d_PR_suppressZeros_5 : decode b_PR_suppressZeros 5 = .ok (.getfield 67, 3) := by decide +kernel
theorem d_PR_suppressZeros_8 : decode b_PR_suppressZeros 8 = .ok (.invokevirtual 132, 3) := by decide +kernel
theorem d_PR_suppressZeros_11 : decode b_PR_suppressZeros 11 = .ok (.istore_n 1, 1) := by decide +kernel
theorem d_PR_suppressZeros_12 : decode b_PR_suppressZeros 12 = .ok (.iload_n 1, 1) := by decide +kernel
theorem d_PR_suppressZeros_13 : decode b_PR_suppressZeros 13 = .ok (.iconst (-1), 1) := by decide +kernel
theorem d_PR_suppressZeros_14 : decode b_PR_suppressZeros 14 = .ok (.if_icmp .eq 18, 3) := by decide +kernel
theorem d_PR_suppressZeros_17 : decode b_PR_suppressZeros 17 = .ok (.aload_n 0, 1) := by decide +kernel
theorem d_PR_suppressZeros_18 : decode b_PR_suppressZeros 18 = .ok (.getfield 9, 3) := by decide +kernel
theorem d_PR_suppressZeros_21 : decode b_PR_suppressZeros 21 = .ok (.aload_n 0, 1) := by decide +kernel
theorem d_PR_suppressZeros_22 : decode b_PR_suppressZeros 22 = .ok (.getfield 81, 3) := by decide +kernel
theorem d_PR_suppressZeros_25 : decode b_PR_suppressZeros 25 = .ok (.iload_n 1, 1) := by decide +kernel
theorem d_PR_suppressZeros_26 : decode b_PR_suppressZeros 26 = .ok (.invokevirtual 178, 3) := by decide +kernel
theorem d_PR_suppressZeros_29 : decode b_PR_suppressZeros 29 = .ok (.ifCond .ne 5, 3) := by decide +kernel
theorem d_PR_suppressZeros_32 : decode b_PR_suppressZeros 32 = .ok (.iconst 2, 1) := by decide +kernel
theorem d_PR_suppressZeros_33 : decode b_PR_suppressZeros 33 = .ok (.ireturn, 1) := by decide +kernel
theorem d_PR_suppressZeros_34 : decode b_PR_suppressZeros 34 = .ok (.aload_n 0, 1) := by decide +kernel
theorem d_PR_suppressZeros_35 : decode b_PR_suppressZeros 35 = .ok (.getfield 9, 3) := by decide +kernel
theorem d_PR_suppressZeros_38 : decode b_PR_suppressZeros 38 = .ok (.aload_n 0, 1) := by decide +kernel
theorem d_PR_suppressZeros_39 : decode b_PR_suppressZeros 39 = .ok (.getfield 81, 3) := by decide +kernel
theorem d_PR_suppressZeros_42 : decode b_PR_suppressZeros 42 = .ok (.aload_n 0, 1) := by decide +kernel
theorem d_PR_suppressZeros_43 : decode b_PR_suppressZeros 43 = .ok (.getfield 9, 3) := by decide +kernel
theorem d_PR_suppressZeros_46 : decode b_PR_suppressZeros 46 = .ok (.aload_n 0, 1) := by decide +kernel
theorem d_PR_suppressZeros_47 : decode b_PR_suppressZeros 47 = .ok (.getfield 67, 3) := by decide +kernel
theorem d_PR_suppressZeros_50 : decode b_PR_suppressZeros 50 = .ok (.invokevirtual 56, 3) := by decide +kernel
theorem d_PR_suppressZeros_53 : decode b_PR_suppressZeros 53 = .ok (.bipush 15, 2) := by decide +kernel
theorem d_PR_suppressZeros_55 : decode b_PR_suppressZeros 55 = .ok (.iand, 1) := by decide +kernel
theorem d_PR_suppressZeros_56 : decode b_PR_suppressZeros 56 = .ok (.invokevirtual 175, 3) := by decide +kernel
theorem d_PR_suppressZeros_59 : decode b_PR_suppressZeros 59 = .ok (.iconst 1, 1) := by decide +kernel
theorem d_PR_suppressZeros_60 : decode b_PR_suppressZeros 60 = .ok (.istore_n 2, 1) := by decide +kernel
theorem d_PR_suppressZeros_61 : decode b_PR_suppressZeros 61 = .ok (.iload_n 2, 1) := by decide +kernel
theorem d_PR_suppressZeros_62 : decode b_PR_suppressZeros 62 = .ok (.iload_n 1, 1) := by decide +kernel
theorem d_PR_suppressZeros_63 : decode b_PR_suppressZeros 63 = .ok (.if_icmp .ge 35, 3) := by decide +kernel
theorem d_PR_suppressZeros_66 : decode b_PR_suppressZeros 66 = .ok (.aload_n 0, 1) := by decide +kernel
theorem d_PR_suppressZeros_67 : decode b_PR_suppressZeros 67 = .ok (.getfield 9, 3) := by decide +kernel
theorem d_PR_suppressZeros_70 : decode b_PR_suppressZeros 70 = .ok (.aload_n 0, 1) := by decide +kernel
theorem d_PR_suppressZeros_71 : decode b_PR_suppressZeros 71 = .ok (.getfield 81, 3) := by decide +kernel
theorem d_PR_suppressZeros_74 : decode b_PR_suppressZeros 74 = .ok (.iload_n 2, 1) := by decide +kernel
theorem d_PR_suppressZeros_75 : decode b_PR_suppressZeros 75 = .ok (.isub, 1) := by decide +kernel
theorem d_PR_suppressZeros_76 : decode b_PR_suppressZeros 76 = .ok (.aload_n 0, 1) := by decide +kernel
theorem d_PR_suppressZeros_77 : decode b_PR_suppressZeros 77 = .ok (.getfield 9, 3) := by decide +kernel
theorem d_PR_suppressZeros_80 : decode b_PR_suppressZeros 80 = .ok (.aload_n 0, 1) := by decide +kernel
theorem d_PR_suppressZeros_81 : decode b_PR_suppressZeros 81 = .ok (.getfield 67, 3) := by decide +kernel
theorem d_PR_suppressZeros_84 : decode b_PR_suppressZeros 84 = .ok (.iload_n 2, 1) := by decide +kernel
theorem d_PR_suppressZeros_85 : decode b_PR_suppressZeros 85 = .ok (.isub, 1) := by decide +kernel
theorem d_PR_suppressZeros_86 : decode b_PR_suppressZeros 86 = .ok (.invokevirtual 56, 3) := by decide +kernel
theorem d_PR_suppressZeros_89 : decode b_PR_suppressZeros 89 = .ok (.invokevirtual 175, 3) := by decide +kernel
theorem d_PR_suppressZeros_92 : decode b_PR_suppressZeros 92 = .ok (.iinc 2 1, 3) := by decide +kernel
theorem d_PR_suppressZeros_95 : decode b_PR_suppressZeros 95 = .ok (.goto (-34), 3) := by decide +kernel
theorem d_PR_suppressZeros_98 : decode b_PR_suppressZeros 98 = .ok (.iload_n 1, 1) := by decide +kernel
theorem d_PR_suppressZeros_99 : decode b_PR_suppressZeros 99 = .ok (.iconst 1, 1) := by decide +kernel
theorem d_PR_suppressZeros_100 : decode b_PR_suppressZeros 100 = .ok (.isub, 1) := by decide +kernel
theorem d_PR_suppressZeros_101 : decode b_PR_suppressZeros 101 = .ok (.istore_n 2, 1) := by decide +kernel
theorem d_PR_suppressZeros_102 : decode b_PR_suppressZeros 102 = .ok (.iload_n 2, 1) := by decide +kernel
theorem d_PR_suppressZeros_103 : decode b_PR_suppressZeros 103 = .ok (.ifCond .lt 42, 3) := by decide +kernel
theorem d_PR_suppressZeros_106 : decode b_PR_suppressZeros 106 = .ok (.aload_n 0, 1) := by decide +kernel
theorem d_PR_suppressZeros_107 : decode b_PR_suppressZeros 107 = .ok (.getfield 9, 3) := by decide +kernel
theorem d_PR_suppressZeros_110 : decode b_PR_suppressZeros 110 = .ok (.aload_n 0, 1) := by decide +kernel
theorem d_PR_suppressZeros_111 : decode b_PR_suppressZeros 111 = .ok (.getfield 81, 3) := by decide +kernel
theorem d_PR_suppressZeros_114 : decode b_PR_suppressZeros 114 = .ok (.iload_n 2, 1) := by decide +kernel
theorem d_PR_suppressZeros_115 : decode b_PR_suppressZeros 115 = .ok (.isub, 1) := by decide +kernel
theorem d_PR_suppressZeros_116 : decode b_PR_suppressZeros 116 = .ok (.invokevirtual 56, 3) := by decide +kernel
theorem d_PR_suppressZeros_119 : decode b_PR_suppressZeros 119 = .ok (.invokestatic 206, 3) := by decide +kernel
theorem d_PR_suppressZeros_122 : decode b_PR_suppressZeros 122 = .ok (.ifCond .eq 23, 3) := by decide +kernel
theorem d_PR_suppressZeros_125 : decode b_PR_suppressZeros 125 = .ok (.aload_n 0, 1) := by decide +kernel
theorem d_PR_suppressZeros_126 : decode b_PR_suppressZeros 126 = .ok (.getfield 9, 3) := by decide +kernel
theorem d_PR_suppressZeros_129 : decode b_PR_suppressZeros 129 = .ok (.aload_n 0, 1) := by decide +kernel
theorem d_PR_suppressZeros_130 : decode b_PR_suppressZeros 130 = .ok (.getfield 81, 3) := by decide +kernel
theorem d_PR_suppressZeros_133 : decode b_PR_suppressZeros 133 = .ok (.iload_n 2, 1) := by decide +kernel
theorem d_PR_suppressZeros_134 : decode b_PR_suppressZeros 134 = .ok (.isub, 1) := by decide +kernel
theorem d_PR_suppressZeros_135 : decode b_PR_suppressZeros 135 = .ok (.iconst 0, 1) := by decide +kernel
theorem d_PR_suppressZeros_136 : decode b_PR_suppressZeros 136 = .ok (.invokevirtual 175, 3) := by decide +kernel
theorem d_PR_suppressZeros_139 : decode b_PR_suppressZeros 139 = .ok (.iinc 2 (-1), 3) := by decide +kernel
theorem d_PR_suppressZeros_142 : decode b_PR_suppressZeros 142 = .ok (.goto (-40), 3) := by decide +kernel
theorem d_PR_suppressZeros_145 : decode b_PR_suppressZeros 145 = .ok (.aload_n 0, 1) := by decide +kernel
theorem d_PR_suppressZeros_146 : decode b_PR_suppressZeros 146 = .ok (.dup, 1) := by decide +kernel
theorem d_PR_suppressZeros_147 : decode b_PR_suppressZeros 147 = .ok (.getfield 67, 3) := by decide +kernel
theorem d_PR_suppressZeros_150 : decode b_PR_suppressZeros 150 = .ok (.iload_n 1, 1) := by decide +kernel
theorem d_PR_suppressZeros_151 : decode b_PR_suppressZeros 151 = .ok (.isub, 1) := by decide +kernel
theorem d_PR_suppressZeros_152 : decode b_PR_suppressZeros 152 = .ok (.putfield 67, 3) := by decide +kernel
theorem d_PR_suppressZeros_155 : decode b_PR_suppressZeros 155 = .ok (.aload_n 0, 1) := by decide +kernel
theorem d_PR_suppressZeros_156 : decode b_PR_suppressZeros 156 = .ok (.dup, 1) := by decide +kernel
theorem d_PR_suppressZeros_157 : decode b_PR_suppressZeros 157 = .ok (.getfield 81, 3) := by decide +kernel
theorem d_PR_suppressZeros_160 : decode b_PR_suppressZeros 160 = .ok (.iconst 1, 1) := by decide +kernel
theorem d_PR_suppressZeros_161 : decode b_PR_suppressZeros 161 = .ok (.iadd, 1) := by decide +kernel
theorem d_PR_suppressZeros_162 : decode b_PR_suppressZeros 162 = .ok (.putfield 81, 3) := by decide +kernel
theorem d_PR_suppressZeros_165 : decode b_PR_suppressZeros 165 = .ok (.iconst 0, 1) := by decide +kernel
theorem d_PR_suppressZeros_166 : decode b_PR_suppressZeros 166 = .ok (.ireturn, 1) := by decide +kernel
theorem d_PR_isSuppressed_0 : decode b_PR_isSuppressed 0 = .ok (.iload_n 0, 1) := by decide +kernel
theorem d_PR_isSuppressed_1 : decode b_PR_isSuppressed 1 = .ok (.bipush 10, 2) := by decide +kernel
theorem d_PR_isSuppressed_3 : decode b_PR_isSuppressed 3 = .ok (.if_icmp .eq 13, 3) := by decide +kernel
theorem d_PR_isSuppressed_6 : decode b_PR_isSuppressed 6 = .ok (.iload_n 0, 1) := by decide +kernel
theorem d_PR_isSuppressed_7 : decode b_PR_isSuppressed 7 = .ok (.ifCond .eq 9, 3) := by decide +kernel
theorem d_PR_isSuppressed_10 : decode b_PR_isSuppressed 10 = .ok (.iload_n 0, 1) := by decide +kernel
theorem d_PR_isSuppressed_11 : decode b_PR_isSuppressed 11 = .ok (.bipush 27, 2) := by decide +kernel
theorem d_PR_isSuppressed_13 : decode b_PR_isSuppressed 13 = .ok (.if_icmp .ne 7, 3) := by decide +kernel
theorem d_PR_isSuppressed_16 : decode b_PR_isSuppressed 16 = .ok (.iconst 1, 1) := by decide +kernel
theorem d_PR_isSuppressed_17 : decode b_PR_isSuppressed 17 = .ok (.goto 4, 3) := by decide +kernel
theorem d_PR_isSuppressed_20 : decode b_PR_isSuppressed 20 = .ok (.iconst 0, 1) := by decide +kernel
theorem d_PR_isSuppressed_21 : decode b_PR_isSuppressed 21 = .ok (.ireturn, 1) := by decide +kernel
theorem d_PR_branch_0 : decode b_PR_branch 0 = .ok (.iload_n 1, 1) := by decide +kernel
theorem d_PR_branch_1 : decode b_PR_branch 1 = .ok (.bipush 8, 2) := by decide +kernel
theorem d_PR_branch_3 : decode b_PR_branch 3 = .ok (.if_icmp .ne 19, 3) := by decide +kernel
theorem d_PR_branch_6 : decode b_PR_branch 6 = .ok (.aload_n 0, 1) := by decide +kernel
theorem d_PR_branch_7 : decode b_PR_branch 7 = .ok (.getfield 9, 3) := by decide +kernel
theorem d_PR_branch_10 : decode b_PR_branch 10 = .ok (.aload_n 0, 1) := by decide +kernel
theorem d_PR_branch_11 : decode b_PR_branch 11 = .ok (.getfield 81, 3) := by decide +kernel
theorem d_PR_branch_14 : decode b_PR_branch 14 = .ok (.invokevirtual 47, 3) := by decide +kernel
theorem d_PR_branch_17 : decode b_PR_branch 17 = .ok (.ifCond .ne 5, 3) := by decide +kernel
theorem d_PR_branch_20 : decode b_PR_branch 20 = .ok (.iconst 2, 1) := by decide +kernel
theorem d_PR_branch_21 : decode b_PR_branch 21 = .ok (.ireturn, 1) := by decide +kernel
theorem d_PR_branch_22 : decode b_PR_branch 22 = .ok (.iconst 1, 1) := by decide +kernel
theorem d_PR_branch_23 : decode b_PR_branch 23 = .ok (.istore_n 2, 1) := by decide +kernel
theorem d_PR_branch_24 : decode b_PR_branch 24 = .ok (.iload_n 1, 1) := by decide +kernel
theorem d_PR_branch_25 : decode b_PR_branch 25 = .ok (.iconst 5, 1) := by decide +kernel
theorem d_PR_branch_26 : decode b_PR_branch 26 = .ok (.if_icmp .ne 15, 3) := by decide +kernel
theorem d_PR_branch_29 : decode b_PR_branch 29 = .ok (.aload_n 0, 1) := by decide +kernel
theorem d_PR_branch_30 : decode b_PR_branch 30 = .ok (.aload_n 0, 1) := by decide +kernel
theorem d_PR_branch_31 : decode b_PR_branch 31 = .ok (.invokevirtual 209, 3) := by decide +kernel
theorem d_PR_branch_34 : decode b_PR_branch 34 = .ok (.invokevirtual 212, 3) := by decide +kernel
theorem d_PR_branch_37 : decode b_PR_branch 37 = .ok (.istore_n 2, 1) := by decide +kernel
theorem d_PR_branch_38 : decode b_PR_branch 38 = .ok (.goto 43, 3) := by decide +kernel
theorem d_PR_branch_41 : decode b_PR_branch 41 = .ok (.iload_n 1, 1) := by decide +kernel
theorem d_PR_branch_42 : decode b_PR_branch 42 = .ok (.bipush 8, 2) := by decide +kernel
theorem d_PR_branch_44 : decode b_PR_branch 44 = .ok (.if_icmp .ne 37, 3) := by decide +kernel
theorem d_PR_branch_47 : decode b_PR_branch 47 = .ok (.aload_n 0, 1) := by decide +kernel
theorem d_PR_branch_48 : decode b_PR_branch 48 = .ok (.getfield 9, 3) := by decide +kernel
theorem d_PR_branch_51 : decode b_PR_branch 51 = .ok (.aload_n 0, 1) := by decide +kernel
theorem d_PR_branch_52 : decode b_PR_branch 52 = .ok (.getfield 81, 3) := by decide +kernel
theorem d_PR_branch_55 : decode b_PR_branch 55 = .ok (.invokevirtual 56, 3) := by decide +kernel
theorem d_PR_branch_58 : decode b_PR_branch 58 = .ok (.aload_n 0, 1) := by decide +kernel
theorem d_PR_branch_59 : decode b_PR_branch 59 = .ok (.invokevirtual 209, 3) := by decide +kernel
theorem d_PR_branch_62 : decode b_PR_branch 62 = .ok (.if_icmp .ne 7, 3) := by decide +kernel
theorem d_PR_branch_65 : decode b_PR_branch 65 = .ok (.iconst 1, 1) := by decide +kernel
theorem d_PR_branch_66 : decode b_PR_branch 66 = .ok (.goto 4, 3) := by decide +kernel
theorem d_PR_branch_69 : decode b_PR_branch 69 = .ok (.iconst 0, 1) := by decide +kernel
theorem d_PR_branch_70 : decode b_PR_branch 70 = .ok (.istore_n 2, 1) := by decide +kernel
theorem d_PR_branch_71 : decode b_PR_branch 71 = .ok (.aload_n 0, 1) := by decide +kernel
theorem d_PR_branch_72 : decode b_PR_branch 72 = .ok (.dup, 1) := by decide +kernel
theorem d_PR_branch_73 : decode b_PR_branch 73 = .ok (.getfield 81, 3) := by decide +kernel
theorem d_PR_branch_76 : decode b_PR_branch 76 = .ok (.iconst 1, 1) := by decide +kernel
theorem d_PR_branch_77 : decode b_PR_branch 77 = .ok (.isub, 1) := by decide +kernel
theorem d_PR_branch_78 : decode b_PR_branch 78 = .ok (.putfield 81, 3) := by decide +kernel
theorem d_PR_branch_81 : decode b_PR_branch 81 = .ok (.iload_n 2, 1) := by decide +kernel
theorem d_PR_branch_82 : decode b_PR_branch 82 = .ok (.ifCond .eq 7, 3) := by decide +kernel
theorem d_PR_branch_85 : decode b_PR_branch 85 = .ok (.aload_n 0, 1) := by decide +kernel
theorem d_PR_branch_86 : decode b_PR_branch 86 = .ok (.invokevirtual 203, 3) := by decide +kernel
theorem d_PR_branch_89 : decode b_PR_branch 89 = .ok (.iconst 0, 1) := by decide +kernel
theorem d_PR_branch_90 : decode b_PR_branch 90 = .ok (.ireturn, 1) := by decide +kernel
theorem d_PR_isIndicated_0 : decode b_PR_isIndicated 0 = .ok (.iload_n 1, 1) := by decide +kernel
theorem d_PR_isIndicated_1 : decode b_PR_isIndicated 1 = .ok (.lookupswitch 131 #[(0, 67), (17, 69), (18, 82), (19, 95), (20, 108), (25, 121), (49, 126)], 67) := by decide +kernel
theorem d_PR_isIndicated_68 : decode b_PR_isIndicated 68 = .ok (.iconst 1, 1) := by decide +kernel
theorem d_PR_isIndicated_69 : decode b_PR_isIndicated 69 = .ok (.ireturn, 1) := by decide +kernel
theorem d_PR_isIndicated_70 : decode b_PR_isIndicated 70 = .ok (.aload_n 0, 1) := by decide +kernel
theorem d_PR_isIndicated_71 : decode b_PR_isIndicated 71 = .ok (.getfield 187, 3) := by decide +kernel
theorem d_PR_isIndicated_74 : decode b_PR_isIndicated 74 = .ok (.ifCond .eq 7, 3) := by decide +kernel
theorem d_PR_isIndicated_77 : decode b_PR_isIndicated 77 = .ok (.iconst 1, 1) := by decide +kernel
theorem d_PR_isIndicated_78 : decode b_PR_isIndicated 78 = .ok (.goto 4, 3) := by decide +kernel
theorem d_PR_isIndicated_81 : decode b_PR_isIndicated 81 = .ok (.iconst 0, 1) := by decide +kernel
theorem d_PR_isIndicated_82 : decode b_PR_isIndicated 82 = .ok (.ireturn, 1) := by decide +kernel
theorem d_PR_isIndicated_83 : decode b_PR_isIndicated 83 = .ok (.aload_n 0, 1) := by decide +kernel
theorem d_PR_isIndicated_84 : decode b_PR_isIndicated 84 = .ok (.getfield 187, 3) := by decide +kernel
theorem d_PR_isIndicated_87 : decode b_PR_isIndicated 87 = .ok (.ifCond .ne 7, 3) := by decide +kernel
theorem d_PR_isIndicated_90 : decode b_PR_isIndicated 90 = .ok (.iconst 1, 1) := by decide +kernel
theorem d_PR_isIndicated_91 : decode b_PR_isIndicated 91 = .ok (.goto 4, 3) := by decide +kernel
theorem d_PR_isIndicated_94 : decode b_PR_isIndicated 94 = .ok (.iconst 0, 1) := by decide +kernel
theorem d_PR_isIndicated_95 : decode b_PR_isIndicated 95 = .ok (.ireturn, 1) := by decide +kernel
theorem d_PR_isIndicated_96 : decode b_PR_isIndicated 96 = .ok (.aload_n 0, 1) := by decide +kernel
theorem d_PR_isIndicated_97 : decode b_PR_isIndicated 97 = .ok (.getfield 187, 3) := by decide +kernel
theorem d_PR_isIndicated_100 : decode b_PR_isIndicated 100 = .ok (.ifCond .ge 7, 3) := by decide +kernel
theorem d_PR_isIndicated_103 : decode b_PR_isIndicated 103 = .ok (.iconst 1, 1) := by decide +kernel
theorem d_PR_isIndicated_104 : decode b_PR_isIndicated 104 = .ok (.goto 4, 3) := by decide +kernel
theorem d_PR_isIndicated_107 : decode b_PR_isIndicated 107 = .ok (.iconst 0, 1) := by decide +kernel
theorem d_PR_isIndicated_108 : decode b_PR_isIndicated 108 = .ok (.ireturn, 1) := by decide +kernel
theorem d_PR_isIndicated_109 : decode b_PR_isIndicated 109 = .ok (.aload_n 0, 1) := by decide +kernel
theorem d_PR_isIndicated_110 : decode b_PR_isIndicated 110 = .ok (.getfield 187, 3) := by decide +kernel
theorem d_PR_isIndicated_113 : decode b_PR_isIndicated 113 = .ok (.ifCond .le 7, 3) := by decide +kernel
theorem d_PR_isIndicated_116 : decode b_PR_isIndicated 116 = .ok (.iconst 1, 1) := by decide +kernel
theorem d_PR_isIndicated_117 : decode b_PR_isIndicated 117 = .ok (.goto 4, 3) := by decide +kernel
theorem d_PR_isIndicated_120 : decode b_PR_isIndicated 120 = .ok (.iconst 0, 1) := by decide +kernel
theorem d_PR_isIndicated_121 : decode b_PR_isIndicated 121 = .ok (.ireturn, 1) := by decide +kernel
theorem d_PR_isIndicated_122 : decode b_PR_isIndicated 122 = .ok (.aload_n 0, 1) := by decide +kernel
theorem d_PR_isIndicated_123 : decode b_PR_isIndicated 123 = .ok (.invokevirtual 215, 3) := by decide +kernel
theorem d_PR_isIndicated_126 : decode b_PR_isIndicated 126 = .ok (.ireturn, 1) := by decide +kernel
theorem d_PR_isIndicated_127 : decode b_PR_isIndicated 127 = .ok (.aload_n 0, 1) := by decide +kernel
theorem d_PR_isIndicated_128 : decode b_PR_isIndicated 128 = .ok (.getfield 219, 3) := by decide +kernel
theorem d_PR_isIndicated_131 : decode b_PR_isIndicated 131 = .ok (.ireturn, 1) := by decide +kernel
theorem d_PR_isIndicated_132 : decode b_PR_isIndicated 132 = .ok (.iconst 0, 1) := by decide +kernel
theorem d_PR_isIndicated_133 : decode b_PR_isIndicated 133 = .ok (.ireturn, 1) := by decide +kernel
theorem d_PR_takeOverflow_0 : decode b_PR_takeOverflow 0 = .ok (.aload_n 0, 1) := by decide +kernel
theorem d_PR_takeOverflow_1 : decode b_PR_takeOverflow 1 = .ok (.getfield 161, 3) := by decide +kernel
theorem d_PR_takeOverflow_4 : decode b_PR_takeOverflow 4 = .ok (.istore_n 1, 1) := by decide +kernel
theorem d_PR_takeOverflow_5 : decode b_PR_takeOverflow 5 = .ok (.aload_n 0, 1) := by decide +kernel
theorem d_PR_takeOverflow_6 : decode b_PR_takeOverflow 6 = .ok (.iconst 0, 1) := by decide +kernel
theorem d_PR_takeOverflow_7 : decode b_PR_takeOverflow 7 = .ok (.putfield 161, 3) := by decide +kernel
theorem d_PR_takeOverflow_10 : decode b_PR_takeOverflow 10 = .ok (.iload_n 1, 1) := by decide +kernel
theorem d_PR_takeOverflow_11 : decode b_PR_takeOverflow 11 = .ok (.ireturn, 1) := by decide +kernel
theorem d_PR_branchByPosition_0 : decode b_PR_branchByPosition 0 = .ok (.aload_n 0, 1) := by decide +kernel
theorem d_PR_branchByPosition_1 : decode b_PR_branchByPosition 1 = .ok (.getfield 9, 3) := by decide +kernel
theorem d_PR_branchByPosition_4 : decode b_PR_branchByPosition 4 = .ok (.aload_n 0, 1) := by decide +kernel
theorem d_PR_branchByPosition_5 : decode b_PR_branchByPosition 5 = .ok (.getfield 81, 3) := by decide +kernel
theorem d_PR_branchByPosition_8 : decode b_PR_branchByPosition 8 = .ok (.invokevirtual 47, 3) := by decide +kernel
theorem d_PR_branchByPosition_11 : decode b_PR_branchByPosition 11 = .ok (.ifCond .ne 5, 3) := by decide +kernel
theorem d_PR_branchByPosition_14 : decode b_PR_branchByPosition 14 = .ok (.iconst 2, 1) := by decide +kernel
theorem d_PR_branchByPosition_15 : decode b_PR_branchByPosition 15 = .ok (.ireturn, 1) := by decide +kernel
theorem d_PR_branchByPosition_16 : decode b_PR_branchByPosition 16 = .ok (.aload_n 0, 1) := by decide +kernel
theorem d_PR_branchByPosition_17 : decode b_PR_branchByPosition 17 = .ok (.aload_n 0, 1) := by decide +kernel
theorem d_PR_branchByPosition_18 : decode b_PR_branchByPosition 18 = .ok (.getfield 81, 3) := by decide +kernel
theorem d_PR_branchByPosition_21 : decode b_PR_branchByPosition 21 = .ok (.aload_n 0, 1) := by decide +kernel
theorem d_PR_branchByPosition_22 : decode b_PR_branchByPosition 22 = .ok (.invokevirtual 209, 3) := by decide +kernel
theorem d_PR_branchByPosition_25 : decode b_PR_branchByPosition 25 = .ok (.invokevirtual 222, 3) := by decide +kernel
theorem d_PR_branchByPosition_28 : decode b_PR_branchByPosition 28 = .ok (.istore_n 1, 1) := by decide +kernel
theorem d_PR_branchByPosition_29 : decode b_PR_branchByPosition 29 = .ok (.aload_n 0, 1) := by decide +kernel
theorem d_PR_branchByPosition_30 : decode b_PR_branchByPosition 30 = .ok (.dup, 1) := by decide +kernel
theorem d_PR_branchByPosition_31 : decode b_PR_branchByPosition 31 = .ok (.getfield 81, 3) := by decide +kernel
theorem d_PR_branchByPosition_34 : decode b_PR_branchByPosition 34 = .ok (.iconst 1, 1) := by decide +kernel
theorem d_PR_branchByPosition_35 : decode b_PR_branchByPosition 35 = .ok (.isub, 1) := by decide +kernel
theorem d_PR_branchByPosition_36 : decode b_PR_branchByPosition 36 = .ok (.putfield 81, 3) := by decide +kernel
theorem d_PR_branchByPosition_39 : decode b_PR_branchByPosition 39 = .ok (.iload_n 1, 1) := by decide +kernel
theorem d_PR_branchByPosition_40 : decode b_PR_branchByPosition 40 = .ok (.ifCond .eq 7, 3) := by decide +kernel
theorem d_PR_branchByPosition_43 : decode b_PR_branchByPosition 43 = .ok (.aload_n 0, 1) := by decide +kernel
theorem d_PR_branchByPosition_44 : decode b_PR_branchByPosition 44 = .ok (.invokevirtual 203, 3) := by decide +kernel
theorem d_PR_branchByPosition_47 : decode b_PR_branchByPosition 47 = .ok (.iconst 0, 1) := by decide +kernel
theorem d_PR_branchByPosition_48 : decode b_PR_branchByPosition 48 = .ok (.ireturn, 1) := by decide +kernel
theorem d_PR_isAsAsked_0 : decode b_PR_isAsAsked 0 = .ok (.aload_n 0, 1) := by decide +kernel
theorem d_PR_isAsAsked_1 : decode b_PR_isAsAsked 1 = .ok (.getfield 9, 3) := by decide +kernel
theorem d_PR_isAsAsked_4 : decode b_PR_isAsAsked 4 = .ok (.iload_n 1, 1) := by decide +kernel
theorem d_PR_isAsAsked_5 : decode b_PR_isAsAsked 5 = .ok (.invokevirtual 225, 3) := by decide +kernel
theorem d_PR_isAsAsked_8 : decode b_PR_isAsAsked 8 = .ok (.iload_n 2, 1) := by decide +kernel
theorem d_PR_isAsAsked_9 : decode b_PR_isAsAsked 9 = .ok (.bipush 48, 2) := by decide +kernel
theorem d_PR_isAsAsked_11 : decode b_PR_isAsAsked 11 = .ok (.iand, 1) := by decide +kernel
theorem d_PR_isAsAsked_12 : decode b_PR_isAsAsked 12 = .ok (.if_icmp .ne 7, 3) := by decide +kernel
theorem d_PR_isAsAsked_15 : decode b_PR_isAsAsked 15 = .ok (.iconst 1, 1) := by decide +kernel
theorem d_PR_isAsAsked_16 : decode b_PR_isAsAsked 16 = .ok (.goto 4, 3) := by decide +kernel
theorem d_PR_isAsAsked_19 : decode b_PR_isAsAsked 19 = .ok (.iconst 0, 1) := by decide +kernel
theorem d_PR_isAsAsked_20 : decode b_PR_isAsAsked 20 = .ok (.istore_n 3, 1) := by decide +kernel
theorem d_PR_isAsAsked_21 : decode b_PR_isAsAsked 21 = .ok (.iload_n 2, 1) := by decide +kernel
theorem d_PR_isAsAsked_22 : decode b_PR_isAsAsked 22 = .ok (.lookupswitch 114 #[(1, 82), (2, 91), (3, 93), (18, 91), (19, 93), (34, 91), (35, 93), (50, 91), (51, 93)], 82) := by decide +kernel
theorem d_PR_isAsAsked_104 : decode b_PR_isAsAsked 104 = .ok (.aload_n 0, 1) := by decide +kernel
theorem d_PR_isAsAsked_105 : decode b_PR_isAsAsked 105 = .ok (.getfield 9, 3) := by decide +kernel
theorem d_PR_isAsAsked_108 : decode b_PR_isAsAsked 108 = .ok (.iload_n 1, 1) := by decide +kernel
theorem d_PR_isAsAsked_109 : decode b_PR_isAsAsked 109 = .ok (.invokevirtual 53, 3) := by decide +kernel
theorem d_PR_isAsAsked_112 : decode b_PR_isAsAsked 112 = .ok (.ireturn, 1) := by decide +kernel
theorem d_PR_isAsAsked_113 : decode b_PR_isAsAsked 113 = .ok (.iload_n 3, 1) := by decide +kernel
theorem d_PR_isAsAsked_114 : decode b_PR_isAsAsked 114 = .ok (.ireturn, 1) := by decide +kernel
theorem d_PR_isAsAsked_115 : decode b_PR_isAsAsked 115 = .ok (.aload_n 0, 1) := by decide +kernel
theorem d_PR_isAsAsked_116 : decode b_PR_isAsAsked 116 = .ok (.getfield 9, 3) := by decide +kernel
theorem d_PR_isAsAsked_119 : decode b_PR_isAsAsked 119 = .ok (.iload_n 1, 1) := by decide +kernel
theorem d_PR_isAsAsked_120 : decode b_PR_isAsAsked 120 = .ok (.invokevirtual 53, 3) := by decide +kernel
theorem d_PR_isAsAsked_123 : decode b_PR_isAsAsked 123 = .ok (.ifCond .ne 7, 3) := by decide +kernel
theorem d_PR_isAsAsked_126 : decode b_PR_isAsAsked 126 = .ok (.iload_n 3, 1) := by decide +kernel
theorem d_PR_isAsAsked_127 : decode b_PR_isAsAsked 127 = .ok (.ifCond .eq 7, 3) := by decide +kernel
theorem d_PR_isAsAsked_130 : decode b_PR_isAsAsked 130 = .ok (.iconst 1, 1) := by decide +kernel
theorem d_PR_isAsAsked_131 : decode b_PR_isAsAsked 131 = .ok (.goto 4, 3) := by decide +kernel
theorem d_PR_isAsAsked_134 : decode b_PR_isAsAsked 134 = .ok (.iconst 0, 1) := by decide +kernel
theorem d_PR_isAsAsked_135 : decode b_PR_isAsAsked 135 = .ok (.ireturn, 1) := by decide +kernel
theorem d_PR_isAsAsked_136 : decode b_PR_isAsAsked 136 = .ok (.iconst 0, 1) := by decide +kernel
theorem d_PR_isAsAsked_137 : decode b_PR_isAsAsked 137 = .ok (.ireturn, 1) := by decide +kernel
theorem d_PR_readCard_0 : decode b_PR_readCard 0 = .ok (.aload_n 0, 1) := by decide +kernel
theorem d_PR_readCard_1 : decode b_PR_readCard 1 = .ok (.invokevirtual 228, 3) := by decide +kernel
theorem d_PR_readCard_4 : decode b_PR_readCard 4 = .ok (.ifCond .ne 5, 3) := by decide +kernel
theorem d_PR_readCard_7 : decode b_PR_readCard 7 = .ok (.iconst 4, 1) := by decide +kernel
theorem d_PR_readCard_8 : decode b_PR_readCard 8 = .ok (.ireturn, 1) := by decide +kernel
theorem d_PR_readCard_9 : decode b_PR_readCard 9 = .ok (.iconst 1, 1) := by decide +kernel
theorem d_PR_readCard_10 : decode b_PR_readCard 10 = .ok (.istore_n 2, 1) := by decide +kernel
theorem d_PR_readCard_11 : decode b_PR_readCard 11 = .ok (.iload_n 2, 1) := by decide +kernel
theorem d_PR_readCard_12 : decode b_PR_readCard 12 = .ok (.bipush 80, 2) := by decide +kernel
theorem d_PR_readCard_14 : decode b_PR_readCard 14 = .ok (.if_icmp .gt 33, 3) := by decide +kernel
theorem d_PR_readCard_17 : decode b_PR_readCard 17 = .ok (.aload_n 0, 1) := by decide +kernel
theorem d_PR_readCard_18 : decode b_PR_readCard 18 = .ok (.getfield 9, 3) := by decide +kernel
theorem d_PR_readCard_21 : decode b_PR_readCard 21 = .ok (.iconst 1, 1) := by decide +kernel
theorem d_PR_readCard_22 : decode b_PR_readCard 22 = .ok (.iload_n 2, 1) := by decide +kernel
theorem d_PR_readCard_23 : decode b_PR_readCard 23 = .ok (.iadd, 1) := by decide +kernel
theorem d_PR_readCard_24 : decode b_PR_readCard 24 = .ok (.iconst 1, 1) := by decide +kernel
theorem d_PR_readCard_25 : decode b_PR_readCard 25 = .ok (.isub, 1) := by decide +kernel
theorem d_PR_readCard_26 : decode b_PR_readCard 26 = .ok (.aload_n 0, 1) := by decide +kernel
theorem d_PR_readCard_27 : decode b_PR_readCard 27 = .ok (.getfield 15, 3) := by decide +kernel
theorem d_PR_readCard_30 : decode b_PR_readCard 30 = .ok (.aload_n 0, 1) := by decide +kernel
theorem d_PR_readCard_31 : decode b_PR_readCard 31 = .ok (.getfield 40, 3) := by decide +kernel
theorem d_PR_readCard_34 : decode b_PR_readCard 34 = .ok (.iload_n 2, 1) := by decide +kernel
theorem d_PR_readCard_35 : decode b_PR_readCard 35 = .ok (.invokevirtual 231, 3) := by decide +kernel
theorem d_PR_readCard_38 : decode b_PR_readCard 38 = .ok (.invokevirtual 175, 3) := by decide +kernel
theorem d_PR_readCard_41 : decode b_PR_readCard 41 = .ok (.iinc 2 1, 3) := by decide +kernel
theorem d_PR_readCard_44 : decode b_PR_readCard 44 = .ok (.goto (-33), 3) := by decide +kernel
theorem d_PR_readCard_47 : decode b_PR_readCard 47 = .ok (.aload_n 0, 1) := by decide +kernel
theorem d_PR_readCard_48 : decode b_PR_readCard 48 = .ok (.dup, 1) := by decide +kernel
theorem d_PR_readCard_49 : decode b_PR_readCard 49 = .ok (.getfield 40, 3) := by decide +kernel
theorem d_PR_readCard_52 : decode b_PR_readCard 52 = .ok (.iconst 1, 1) := by decide +kernel
theorem d_PR_readCard_53 : decode b_PR_readCard 53 = .ok (.iadd, 1) := by decide +kernel
theorem d_PR_readCard_54 : decode b_PR_readCard 54 = .ok (.putfield 40, 3) := by decide +kernel
theorem d_PR_readCard_57 : decode b_PR_readCard 57 = .ok (.aload_n 0, 1) := by decide +kernel
theorem d_PR_readCard_58 : decode b_PR_readCard 58 = .ok (.aload_n 0, 1) := by decide +kernel
theorem d_PR_readCard_59 : decode b_PR_readCard 59 = .ok (.invokevirtual 228, 3) := by decide +kernel
theorem d_PR_readCard_62 : decode b_PR_readCard 62 = .ok (.ifCond .ne 7, 3) := by decide +kernel
theorem d_PR_readCard_65 : decode b_PR_readCard 65 = .ok (.iconst 1, 1) := by decide +kernel
theorem d_PR_readCard_66 : decode b_PR_readCard 66 = .ok (.goto 4, 3) := by decide +kernel
theorem d_PR_readCard_69 : decode b_PR_readCard 69 = .ok (.iconst 0, 1) := by decide +kernel
theorem d_PR_readCard_70 : decode b_PR_readCard 70 = .ok (.putfield 219, 3) := by decide +kernel
theorem d_PR_readCard_73 : decode b_PR_readCard 73 = .ok (.aload_n 0, 1) := by decide +kernel
theorem d_PR_readCard_74 : decode b_PR_readCard 74 = .ok (.bipush 81, 2) := by decide +kernel
theorem d_PR_readCard_76 : decode b_PR_readCard 76 = .ok (.iload_n 1, 1) := by decide +kernel
theorem d_PR_readCard_77 : decode b_PR_readCard 77 = .ok (.invokevirtual 233, 3) := by decide +kernel
theorem d_PR_readCard_80 : decode b_PR_readCard 80 = .ok (.iconst 0, 1) := by decide +kernel
theorem d_PR_readCard_81 : decode b_PR_readCard 81 = .ok (.ireturn, 1) := by decide +kernel
theorem d_PR_fillRow_0 : decode b_PR_fillRow 0 = .ok (.aload_n 1, 1) := by decide +kernel
theorem d_PR_fillRow_1 : decode b_PR_fillRow 1 = .ok (.invokevirtual 236, 3) := by decide +kernel
theorem d_PR_fillRow_4 : decode b_PR_fillRow 4 = .ok (.ifCond .eq 5, 3) := by decide +kernel
theorem d_PR_fillRow_7 : decode b_PR_fillRow 7 = .ok (.iconst 5, 1) := by decide +kernel
theorem d_PR_fillRow_8 : decode b_PR_fillRow 8 = .ok (.ireturn, 1) := by decide +kernel
theorem d_PR_fillRow_9 : decode b_PR_fillRow 9 = .ok (.aload_n 1, 1) := by decide +kernel
theorem d_PR_fillRow_10 : decode b_PR_fillRow 10 = .ok (.aload_n 0, 1) := by decide +kernel
theorem d_PR_fillRow_11 : decode b_PR_fillRow 11 = .ok (.getfield 9, 3) := by decide +kernel
theorem d_PR_fillRow_14 : decode b_PR_fillRow 14 = .ok (.iload_n 2, 1) := by decide +kernel
theorem d_PR_fillRow_15 : decode b_PR_fillRow 15 = .ok (.invokevirtual 239, 3) := by decide +kernel
theorem d_PR_fillRow_18 : decode b_PR_fillRow 18 = .ok (.aload_n 0, 1) := by decide +kernel
theorem d_PR_fillRow_19 : decode b_PR_fillRow 19 = .ok (.iload_n 2, 1) := by decide +kernel
theorem d_PR_fillRow_20 : decode b_PR_fillRow 20 = .ok (.iload_n 3, 1) := by decide +kernel
theorem d_PR_fillRow_21 : decode b_PR_fillRow 21 = .ok (.iadd, 1) := by decide +kernel
theorem d_PR_fillRow_22 : decode b_PR_fillRow 22 = .ok (.iload 4, 2) := by decide +kernel
theorem d_PR_fillRow_24 : decode b_PR_fillRow 24 = .ok (.invokevirtual 233, 3) := by decide +kernel
theorem d_PR_fillRow_27 : decode b_PR_fillRow 27 = .ok (.iconst 0, 1) := by decide +kernel
theorem d_PR_fillRow_28 : decode b_PR_fillRow 28 = .ok (.ireturn, 1) := by decide +kernel
theorem d_PR_endTransfer_0 : decode b_PR_endTransfer 0 = .ok (.aload_n 0, 1) := by decide +kernel
theorem d_PR_endTransfer_1 : decode b_PR_endTransfer 1 = .ok (.iload_n 1, 1) := by decide +kernel
theorem d_PR_endTransfer_2 : decode b_PR_endTransfer 2 = .ok (.putfield 81, 3) := by decide +kernel
theorem d_PR_endTransfer_5 : decode b_PR_endTransfer 5 = .ok (.iload_n 2, 1) := by decide +kernel
theorem d_PR_endTransfer_6 : decode b_PR_endTransfer 6 = .ok (.ifCond .eq 7, 3) := by decide +kernel
theorem d_PR_endTransfer_9 : decode b_PR_endTransfer 9 = .ok (.aload_n 0, 1) := by decide +kernel
theorem d_PR_endTransfer_10 : decode b_PR_endTransfer 10 = .ok (.invokevirtual 203, 3) := by decide +kernel
theorem d_PR_endTransfer_13 : decode b_PR_endTransfer 13 = .ok (.return_, 1) := by decide +kernel
theorem d_PR_storeAddress_0 : decode b_PR_storeAddress 0 = .ok (.aload_n 0, 1) := by decide +kernel
theorem d_PR_storeAddress_1 : decode b_PR_storeAddress 1 = .ok (.getfield 9, 3) := by decide +kernel
theorem d_PR_storeAddress_4 : decode b_PR_storeAddress 4 = .ok (.aload_n 0, 1) := by decide +kernel
theorem d_PR_storeAddress_5 : decode b_PR_storeAddress 5 = .ok (.getfield 67, 3) := by decide +kernel
theorem d_PR_storeAddress_8 : decode b_PR_storeAddress 8 = .ok (.iconst 3, 1) := by decide +kernel
theorem d_PR_storeAddress_9 : decode b_PR_storeAddress 9 = .ok (.invokevirtual 178, 3) := by decide +kernel
theorem d_PR_storeAddress_12 : decode b_PR_storeAddress 12 = .ok (.ifCond .ne 5, 3) := by decide +kernel
theorem d_PR_storeAddress_15 : decode b_PR_storeAddress 15 = .ok (.iconst 2, 1) := by decide +kernel
theorem d_PR_storeAddress_16 : decode b_PR_storeAddress 16 = .ok (.ireturn, 1) := by decide +kernel
theorem d_PR_storeAddress_17 : decode b_PR_storeAddress 17 = .ok (.aload_n 0, 1) := by decide +kernel
theorem d_PR_storeAddress_18 : decode b_PR_storeAddress 18 = .ok (.getfield 9, 3) := by decide +kernel
theorem d_PR_storeAddress_21 : decode b_PR_storeAddress 21 = .ok (.aload_n 0, 1) := by decide +kernel
theorem d_PR_storeAddress_22 : decode b_PR_storeAddress 22 = .ok (.getfield 67, 3) := by decide +kernel
theorem d_PR_storeAddress_25 : decode b_PR_storeAddress 25 = .ok (.iload_n 1, 1) := by decide +kernel
theorem d_PR_storeAddress_26 : decode b_PR_storeAddress 26 = .ok (.sipush 16000, 3) := by decide +kernel
theorem d_PR_storeAddress_29 : decode b_PR_storeAddress 29 = .ok (.invokestatic 243, 3) := by decide +kernel
theorem d_PR_storeAddress_32 : decode b_PR_storeAddress 32 = .ok (.invokevirtual 248, 3) := by decide +kernel
theorem d_PR_storeAddress_35 : decode b_PR_storeAddress 35 = .ok (.aload_n 0, 1) := by decide +kernel
theorem d_PR_storeAddress_36 : decode b_PR_storeAddress 36 = .ok (.dup, 1) := by decide +kernel
theorem d_PR_storeAddress_37 : decode b_PR_storeAddress 37 = .ok (.getfield 67, 3) := by decide +kernel
theorem d_PR_storeAddress_40 : decode b_PR_storeAddress 40 = .ok (.iconst 3, 1) := by decide +kernel
theorem d_PR_storeAddress_41 : decode b_PR_storeAddress 41 = .ok (.isub, 1) := by decide +kernel
theorem d_PR_storeAddress_42 : decode b_PR_storeAddress 42 = .ok (.putfield 67, 3) := by decide +kernel
theorem d_PR_storeAddress_45 : decode b_PR_storeAddress 45 = .ok (.iconst 0, 1) := by decide +kernel
theorem d_PR_storeAddress_46 : decode b_PR_storeAddress 46 = .ok (.ireturn, 1) := by decide +kernel
theorem d_PR_halt_0 : decode b_PR_halt 0 = .ok (.iload_n 1, 1) := by decide +kernel
theorem d_PR_halt_1 : decode b_PR_halt 1 = .ok (.ifCond .eq 7, 3) := by decide +kernel
theorem d_PR_halt_4 : decode b_PR_halt 4 = .ok (.aload_n 0, 1) := by decide +kernel
theorem d_PR_halt_5 : decode b_PR_halt 5 = .ok (.invokevirtual 203, 3) := by decide +kernel
theorem d_PR_halt_8 : decode b_PR_halt 8 = .ok (.bipush 6, 2) := by decide +kernel
theorem d_PR_halt_10 : decode b_PR_halt 10 = .ok (.ireturn, 1) := by decide +kernel
end
section
theorem d_ST_init_0 : decode b_ST_init 0 = .ok (.aload_n 0, 1) := by decide +kernel
theorem d_ST_init_1 : decode b_ST_init 1 = .ok (.invokespecial 3, 3) := by decide +kernel
theorem d_ST_init_4 : decode b_ST_init 4 = .ok (.aload_n 0, 1) := by decide +kernel
theorem d_ST_init_5 : decode b_ST_init 5 = .ok (.iload_n 1, 1) := by decide +kernel
theorem d_ST_init_6 : decode b_ST_init 6 = .ok (.newarray .int, 2) := by decide +kernel
theorem d_ST_init_8 : decode b_ST_init 8 = .ok (.putfield 9, 3) := by decide +kernel
theorem d_ST_init_11 : decode b_ST_init 11 = .ok (.return_, 1) := by decide +kernel
theorem d_ST_size_0 : decode b_ST_size 0 = .ok (.aload_n 0, 1) := by decide +kernel
theorem d_ST_size_1 : decode b_ST_size 1 = .ok (.getfield 9, 3) := by decide +kernel
theorem d_ST_size_4 : decode b_ST_size 4 = .ok (.arraylength, 1) := by decide +kernel
theorem d_ST_size_5 : decode b_ST_size 5 = .ok (.ireturn, 1) := by decide +kernel
theorem d_ST_has_0 : decode b_ST_has 0 = .ok (.iload_n 1, 1) := by decide +kernel
theorem d_ST_has_1 : decode b_ST_has 1 = .ok (.ifCond .lt 16, 3) := by decide +kernel
theorem d_ST_has_4 : decode b_ST_has 4 = .ok (.iload_n 1, 1) := by decide +kernel
theorem d_ST_has_5 : decode b_ST_has 5 = .ok (.aload_n 0, 1) := by decide +kernel
theorem d_ST_has_6 : decode b_ST_has 6 = .ok (.getfield 9, 3) := by decide +kernel
theorem d_ST_has_9 : decode b_ST_has 9 = .ok (.arraylength, 1) := by decide +kernel
theorem d_ST_has_10 : decode b_ST_has 10 = .ok (.if_icmp .ge 7, 3) := by decide +kernel
theorem d_ST_has_13 : decode b_ST_has 13 = .ok (.iconst 1, 1) := by decide +kernel
theorem d_ST_has_14 : decode b_ST_has 14 = .ok (.goto 4, 3) := by decide +kernel
theorem d_ST_has_17 : decode b_ST_has 17 = .ok (.iconst 0, 1) := by decide +kernel
theorem d_ST_has_18 : decode b_ST_has 18 = .ok (.ireturn, 1) := by decide +kernel
theorem d_ST_hasSpan_0 : decode b_ST_hasSpan 0 = .ok (.aload_n 0, 1) := by decide +kernel
theorem d_ST_hasSpan_1 : decode b_ST_hasSpan 1 = .ok (.iload_n 1, 1) := by decide +kernel
theorem d_ST_hasSpan_2 : decode b_ST_hasSpan 2 = .ok (.invokevirtual 15, 3) := by decide +kernel
theorem d_ST_hasSpan_5 : decode b_ST_hasSpan 5 = .ok (.ifCond .eq 14, 3) := by decide +kernel
theorem d_ST_hasSpan_8 : decode b_ST_hasSpan 8 = .ok (.iload_n 1, 1) := by decide +kernel
theorem d_ST_hasSpan_9 : decode b_ST_hasSpan 9 = .ok (.iload_n 2, 1) := by decide +kernel
theorem d_ST_hasSpan_10 : decode b_ST_hasSpan 10 = .ok (.iconst 1, 1) := by decide +kernel
theorem d_ST_hasSpan_11 : decode b_ST_hasSpan 11 = .ok (.isub, 1) := by decide +kernel
theorem d_ST_hasSpan_12 : decode b_ST_hasSpan 12 = .ok (.if_icmp .lt 7, 3) := by decide +kernel
theorem d_ST_hasSpan_15 : decode b_ST_hasSpan 15 = .ok (.iconst 1, 1) := by decide +kernel
theorem d_ST_hasSpan_16 : decode b_ST_hasSpan 16 = .ok (.goto 4, 3) := by decide +kernel
theorem d_ST_hasSpan_19 : decode b_ST_hasSpan 19 = .ok (.iconst 0, 1) := by decide +kernel
theorem d_ST_hasSpan_20 : decode b_ST_hasSpan 20 = .ok (.ireturn, 1) := by decide +kernel
theorem d_ST_character_0 : decode b_ST_character 0 = .ok (.aload_n 0, 1) := by decide +kernel
theorem d_ST_character_1 : decode b_ST_character 1 = .ok (.getfield 9, 3) := by decide +kernel
theorem d_ST_character_4 : decode b_ST_character 4 = .ok (.iload_n 1, 1) := by decide +kernel
theorem d_ST_character_5 : decode b_ST_character 5 = .ok (.iaload, 1) := by decide +kernel
theorem d_ST_character_6 : decode b_ST_character 6 = .ok (.bipush 63, 2) := by decide +kernel
theorem d_ST_character_8 : decode b_ST_character 8 = .ok (.iand, 1) := by decide +kernel
theorem d_ST_character_9 : decode b_ST_character 9 = .ok (.ireturn, 1) := by decide +kernel
theorem d_ST_hasMark_0 : decode b_ST_hasMark 0 = .ok (.aload_n 0, 1) := by decide +kernel
theorem d_ST_hasMark_1 : decode b_ST_hasMark 1 = .ok (.getfield 9, 3) := by decide +kernel
theorem d_ST_hasMark_4 : decode b_ST_hasMark 4 = .ok (.iload_n 1, 1) := by decide +kernel
theorem d_ST_hasMark_5 : decode b_ST_hasMark 5 = .ok (.iaload, 1) := by decide +kernel
theorem d_ST_hasMark_6 : decode b_ST_hasMark 6 = .ok (.bipush 64, 2) := by decide +kernel
theorem d_ST_hasMark_8 : decode b_ST_hasMark 8 = .ok (.iand, 1) := by decide +kernel
theorem d_ST_hasMark_9 : decode b_ST_hasMark 9 = .ok (.ifCond .eq 7, 3) := by decide +kernel
theorem d_ST_hasMark_12 : decode b_ST_hasMark 12 = .ok (.iconst 1, 1) := by decide +kernel
theorem d_ST_hasMark_13 : decode b_ST_hasMark 13 = .ok (.goto 4, 3) := by decide +kernel
theorem d_ST_hasMark_16 : decode b_ST_hasMark 16 = .ok (.iconst 0, 1) := by decide +kernel
theorem d_ST_hasMark_17 : decode b_ST_hasMark 17 = .ok (.ireturn, 1) := by decide +kernel
theorem d_ST_zone_0 : decode b_ST_zone 0 = .ok (.aload_n 0, 1) := by decide +kernel
theorem d_ST_zone_1 : decode b_ST_zone 1 = .ok (.getfield 9, 3) := by decide +kernel
theorem d_ST_zone_4 : decode b_ST_zone 4 = .ok (.iload_n 1, 1) := by decide +kernel
theorem d_ST_zone_5 : decode b_ST_zone 5 = .ok (.iaload, 1) := by decide +kernel
theorem d_ST_zone_6 : decode b_ST_zone 6 = .ok (.bipush 48, 2) := by decide +kernel
theorem d_ST_zone_8 : decode b_ST_zone 8 = .ok (.iand, 1) := by decide +kernel
theorem d_ST_zone_9 : decode b_ST_zone 9 = .ok (.ireturn, 1) := by decide +kernel
theorem d_ST_digit_0 : decode b_ST_digit 0 = .ok (.aload_n 0, 1) := by decide +kernel
theorem d_ST_digit_1 : decode b_ST_digit 1 = .ok (.getfield 9, 3) := by decide +kernel
theorem d_ST_digit_4 : decode b_ST_digit 4 = .ok (.iload_n 1, 1) := by decide +kernel
theorem d_ST_digit_5 : decode b_ST_digit 5 = .ok (.iaload, 1) := by decide +kernel
theorem d_ST_digit_6 : decode b_ST_digit 6 = .ok (.bipush 15, 2) := by decide +kernel
theorem d_ST_digit_8 : decode b_ST_digit 8 = .ok (.iand, 1) := by decide +kernel
theorem d_ST_digit_9 : decode b_ST_digit 9 = .ok (.bipush 10, 2) := by decide +kernel
theorem d_ST_digit_11 : decode b_ST_digit 11 = .ok (.irem, 1) := by decide +kernel
theorem d_ST_digit_12 : decode b_ST_digit 12 = .ok (.ireturn, 1) := by decide +kernel
theorem d_ST_isMinus_0 : decode b_ST_isMinus 0 = .ok (.aload_n 0, 1) := by decide +kernel
theorem d_ST_isMinus_1 : decode b_ST_isMinus 1 = .ok (.iload_n 1, 1) := by decide +kernel
theorem d_ST_isMinus_2 : decode b_ST_isMinus 2 = .ok (.invokevirtual 19, 3) := by decide +kernel
theorem d_ST_isMinus_5 : decode b_ST_isMinus 5 = .ok (.bipush 32, 2) := by decide +kernel
theorem d_ST_isMinus_7 : decode b_ST_isMinus 7 = .ok (.if_icmp .ne 7, 3) := by decide +kernel
theorem d_ST_isMinus_10 : decode b_ST_isMinus 10 = .ok (.iconst 1, 1) := by decide +kernel
theorem d_ST_isMinus_11 : decode b_ST_isMinus 11 = .ok (.goto 4, 3) := by decide +kernel
theorem d_ST_isMinus_14 : decode b_ST_isMinus 14 = .ok (.iconst 0, 1) := by decide +kernel
theorem d_ST_isMinus_15 : decode b_ST_isMinus 15 = .ok (.ireturn, 1) := by decide +kernel
theorem d_ST_place_0 : decode b_ST_place 0 = .ok (.aload_n 0, 1) := by decide +kernel
theorem d_ST_place_1 : decode b_ST_place 1 = .ok (.getfield 9, 3) := by decide +kernel
theorem d_ST_place_4 : decode b_ST_place 4 = .ok (.iload_n 1, 1) := by decide +kernel
theorem d_ST_place_5 : decode b_ST_place 5 = .ok (.iload_n 3, 1) := by decide +kernel
theorem d_ST_place_6 : decode b_ST_place 6 = .ok (.ifCond .eq 10, 3) := by decide +kernel
theorem d_ST_place_9 : decode b_ST_place 9 = .ok (.iload_n 2, 1) := by decide +kernel
theorem d_ST_place_10 : decode b_ST_place 10 = .ok (.bipush 64, 2) := by decide +kernel
theorem d_ST_place_12 : decode b_ST_place 12 = .ok (.ior, 1) := by decide +kernel
theorem d_ST_place_13 : decode b_ST_place 13 = .ok (.goto 4, 3) := by decide +kernel
theorem d_ST_place_16 : decode b_ST_place 16 = .ok (.iload_n 2, 1) := by decide +kernel
theorem d_ST_place_17 : decode b_ST_place 17 = .ok (.iastore, 1) := by decide +kernel
theorem d_ST_place_18 : decode b_ST_place 18 = .ok (.return_, 1) := by decide +kernel
theorem d_ST_write_0 : decode b_ST_write 0 = .ok (.aload_n 0, 1) := by decide +kernel
theorem d_ST_write_1 : decode b_ST_write 1 = .ok (.getfield 9, 3) := by decide +kernel
theorem d_ST_write_4 : decode b_ST_write 4 = .ok (.iload_n 1, 1) := by decide +kernel
theorem d_ST_write_5 : decode b_ST_write 5 = .ok (.aload_n 0, 1) := by decide +kernel
theorem d_ST_write_6 : decode b_ST_write 6 = .ok (.getfield 9, 3) := by decide +kernel
theorem d_ST_write_9 : decode b_ST_write 9 = .ok (.iload_n 1, 1) := by decide +kernel
theorem d_ST_write_10 : decode b_ST_write 10 = .ok (.iaload, 1) := by decide +kernel
theorem d_ST_write_11 : decode b_ST_write 11 = .ok (.bipush 64, 2) := by decide +kernel
theorem d_ST_write_13 : decode b_ST_write 13 = .ok (.iand, 1) := by decide +kernel
theorem d_ST_write_14 : decode b_ST_write 14 = .ok (.iload_n 2, 1) := by decide +kernel
theorem d_ST_write_15 : decode b_ST_write 15 = .ok (.ior, 1) := by decide +kernel
theorem d_ST_write_16 : decode b_ST_write 16 = .ok (.iastore, 1) := by decide +kernel
theorem d_ST_write_17 : decode b_ST_write 17 = .ok (.return_, 1) := by decide +kernel
theorem d_ST_writeZone_0 : decode b_ST_writeZone 0 = .ok (.aload_n 0, 1) := by decide +kernel
theorem d_ST_writeZone_1 : decode b_ST_writeZone 1 = .ok (.iload_n 1, 1) := by decide +kernel
theorem d_ST_writeZone_2 : decode b_ST_writeZone 2 = .ok (.aload_n 0, 1) := by decide +kernel
theorem d_ST_writeZone_3 : decode b_ST_writeZone 3 = .ok (.iload_n 1, 1) := by decide +kernel
theorem d_ST_writeZone_4 : decode b_ST_writeZone 4 = .ok (.invokevirtual 23, 3) := by decide +kernel
theorem d_ST_writeZone_7 : decode b_ST_writeZone 7 = .ok (.bipush 15, 2) := by decide +kernel
theorem d_ST_writeZone_9 : decode b_ST_writeZone 9 = .ok (.iand, 1) := by decide +kernel
theorem d_ST_writeZone_10 : decode b_ST_writeZone 10 = .ok (.iload_n 2, 1) := by decide +kernel
theorem d_ST_writeZone_11 : decode b_ST_writeZone 11 = .ok (.ior, 1) := by decide +kernel
theorem d_ST_writeZone_12 : decode b_ST_writeZone 12 = .ok (.invokevirtual 26, 3) := by decide +kernel
theorem d_ST_writeZone_15 : decode b_ST_writeZone 15 = .ok (.return_, 1) := by decide +kernel
theorem d_ST_mark_0 : decode b_ST_mark 0 = .ok (.aload_n 0, 1) := by decide +kernel
theorem d_ST_mark_1 : decode b_ST_mark 1 = .ok (.iload_n 1, 1) := by decide +kernel
theorem d_ST_mark_2 : decode b_ST_mark 2 = .ok (.aload_n 0, 1) := by decide +kernel
theorem d_ST_mark_3 : decode b_ST_mark 3 = .ok (.iload_n 1, 1) := by decide +kernel
theorem d_ST_mark_4 : decode b_ST_mark 4 = .ok (.invokevirtual 23, 3) := by decide +kernel
theorem d_ST_mark_7 : decode b_ST_mark 7 = .ok (.iload_n 2, 1) := by decide +kernel
theorem d_ST_mark_8 : decode b_ST_mark 8 = .ok (.invokevirtual 30, 3) := by decide +kernel
theorem d_ST_mark_11 : decode b_ST_mark 11 = .ok (.return_, 1) := by decide +kernel
theorem d_ST_copySpan_0 : decode b_ST_copySpan 0 = .ok (.aload_n 0, 1) := by decide +kernel
theorem d_ST_copySpan_1 : decode b_ST_copySpan 1 = .ok (.getfield 9, 3) := by decide +kernel
theorem d_ST_copySpan_4 : decode b_ST_copySpan 4 = .ok (.iload_n 1, 1) := by decide +kernel
theorem d_ST_copySpan_5 : decode b_ST_copySpan 5 = .ok (.iload_n 3, 1) := by decide +kernel
theorem d_ST_copySpan_6 : decode b_ST_copySpan 6 = .ok (.isub, 1) := by decide +kernel
theorem d_ST_copySpan_7 : decode b_ST_copySpan 7 = .ok (.iconst 1, 1) := by decide +kernel
theorem d_ST_copySpan_8 : decode b_ST_copySpan 8 = .ok (.iadd, 1) := by decide +kernel
theorem d_ST_copySpan_9 : decode b_ST_copySpan 9 = .ok (.aload_n 0, 1) := by decide +kernel
theorem d_ST_copySpan_10 : decode b_ST_copySpan 10 = .ok (.getfield 9, 3) := by decide +kernel
theorem d_ST_copySpan_13 : decode b_ST_copySpan 13 = .ok (.iload_n 2, 1) := by decide +kernel
theorem d_ST_copySpan_14 : decode b_ST_copySpan 14 = .ok (.iload_n 3, 1) := by decide +kernel
theorem d_ST_copySpan_15 : decode b_ST_copySpan 15 = .ok (.isub, 1) := by decide +kernel
theorem d_ST_copySpan_16 : decode b_ST_copySpan 16 = .ok (.iconst 1, 1) := by decide +kernel
theorem d_ST_copySpan_17 : decode b_ST_copySpan 17 = .ok (.iadd, 1) := by decide +kernel
theorem d_ST_copySpan_18 : decode b_ST_copySpan 18 = .ok (.iload_n 3, 1) := by decide +kernel
theorem d_ST_copySpan_19 : decode b_ST_copySpan 19 = .ok (.invokestatic 34, 3) := by decide +kernel
theorem d_ST_copySpan_22 : decode b_ST_copySpan 22 = .ok (.return_, 1) := by decide +kernel
theorem d_ST_fieldLength1_0 : decode b_ST_fieldLength1 0 = .ok (.aload_n 0, 1) := by decide +kernel
theorem d_ST_fieldLength1_1 : decode b_ST_fieldLength1 1 = .ok (.iload_n 1, 1) := by decide +kernel
theorem d_ST_fieldLength1_2 : decode b_ST_fieldLength1 2 = .ok (.aload_n 0, 1) := by decide +kernel
theorem d_ST_fieldLength1_3 : decode b_ST_fieldLength1 3 = .ok (.getfield 9, 3) := by decide +kernel
theorem d_ST_fieldLength1_6 : decode b_ST_fieldLength1 6 = .ok (.arraylength, 1) := by decide +kernel
theorem d_ST_fieldLength1_7 : decode b_ST_fieldLength1 7 = .ok (.iconst 1, 1) := by decide +kernel
theorem d_ST_fieldLength1_8 : decode b_ST_fieldLength1 8 = .ok (.iadd, 1) := by decide +kernel
theorem d_ST_fieldLength1_9 : decode b_ST_fieldLength1 9 = .ok (.invokevirtual 40, 3) := by decide +kernel
theorem d_ST_fieldLength1_12 : decode b_ST_fieldLength1 12 = .ok (.ireturn, 1) := by decide +kernel
theorem d_ST_fieldLength2_0 : decode b_ST_fieldLength2 0 = .ok (.aload_n 0, 1) := by decide +kernel
theorem d_ST_fieldLength2_1 : decode b_ST_fieldLength2 1 = .ok (.iload_n 1, 1) := by decide +kernel
theorem d_ST_fieldLength2_2 : decode b_ST_fieldLength2 2 = .ok (.invokevirtual 15, 3) := by decide +kernel
theorem d_ST_fieldLength2_5 : decode b_ST_fieldLength2 5 = .ok (.ifCond .ne 5, 3) := by decide +kernel
theorem d_ST_fieldLength2_8 : decode b_ST_fieldLength2 8 = .ok (.iconst (-1), 1) := by decide +kernel
theorem d_ST_fieldLength2_9 : decode b_ST_fieldLength2 9 = .ok (.ireturn, 1) := by decide +kernel
theorem d_ST_fieldLength2_10 : decode b_ST_fieldLength2 10 = .ok (.iconst 1, 1) := by decide +kernel
theorem d_ST_fieldLength2_11 : decode b_ST_fieldLength2 11 = .ok (.istore_n 3, 1) := by decide +kernel
theorem d_ST_fieldLength2_12 : decode b_ST_fieldLength2 12 = .ok (.iload_n 3, 1) := by decide +kernel
theorem d_ST_fieldLength2_13 : decode b_ST_fieldLength2 13 = .ok (.iload_n 1, 1) := by decide +kernel
theorem d_ST_fieldLength2_14 : decode b_ST_fieldLength2 14 = .ok (.iconst 1, 1) := by decide +kernel
theorem d_ST_fieldLength2_15 : decode b_ST_fieldLength2 15 = .ok (.iadd, 1) := by decide +kernel
theorem d_ST_fieldLength2_16 : decode b_ST_fieldLength2 16 = .ok (.if_icmp .gt 28, 3) := by decide +kernel
theorem d_ST_fieldLength2_19 : decode b_ST_fieldLength2 19 = .ok (.iload_n 3, 1) := by decide +kernel
theorem d_ST_fieldLength2_20 : decode b_ST_fieldLength2 20 = .ok (.iload_n 2, 1) := by decide +kernel
theorem d_ST_fieldLength2_21 : decode b_ST_fieldLength2 21 = .ok (.if_icmp .eq 15, 3) := by decide +kernel
theorem d_ST_fieldLength2_24 : decode b_ST_fieldLength2 24 = .ok (.aload_n 0, 1) := by decide +kernel
theorem d_ST_fieldLength2_25 : decode b_ST_fieldLength2 25 = .ok (.iload_n 1, 1) := by decide +kernel
theorem d_ST_fieldLength2_26 : decode b_ST_fieldLength2 26 = .ok (.iload_n 3, 1) := by decide +kernel
theorem d_ST_fieldLength2_27 : decode b_ST_fieldLength2 27 = .ok (.isub, 1) := by decide +kernel
theorem d_ST_fieldLength2_28 : decode b_ST_fieldLength2 28 = .ok (.iconst 1, 1) := by decide +kernel
theorem d_ST_fieldLength2_29 : decode b_ST_fieldLength2 29 = .ok (.iadd, 1) := by decide +kernel
theorem d_ST_fieldLength2_30 : decode b_ST_fieldLength2 30 = .ok (.invokevirtual 44, 3) := by decide +kernel
theorem d_ST_fieldLength2_33 : decode b_ST_fieldLength2 33 = .ok (.ifCond .eq 5, 3) := by decide +kernel
theorem d_ST_fieldLength2_36 : decode b_ST_fieldLength2 36 = .ok (.iload_n 3, 1) := by decide +kernel
theorem d_ST_fieldLength2_37 : decode b_ST_fieldLength2 37 = .ok (.ireturn, 1) := by decide +kernel
theorem d_ST_fieldLength2_38 : decode b_ST_fieldLength2 38 = .ok (.iinc 3 1, 3) := by decide +kernel
theorem d_ST_fieldLength2_41 : decode b_ST_fieldLength2 41 = .ok (.goto (-29), 3) := by decide +kernel
theorem d_ST_fieldLength2_44 : decode b_ST_fieldLength2 44 = .ok (.iconst (-1), 1) := by decide +kernel
theorem d_ST_fieldLength2_45 : decode b_ST_fieldLength2 45 = .ok (.ireturn, 1) := by decide +kernel
theorem d_ST_commonLength_0 : decode b_ST_commonLength 0 = .ok (.aload_n 0, 1) := by decide +kernel
theorem d_ST_commonLength_1 : decode b_ST_commonLength 1 = .ok (.iload_n 1, 1) := by decide +kernel
theorem d_ST_commonLength_2 : decode b_ST_commonLength 2 = .ok (.invokevirtual 15, 3) := by decide +kernel
theorem d_ST_commonLength_5 : decode b_ST_commonLength 5 = .ok (.ifCond .eq 11, 3) := by decide +kernel
theorem d_ST_commonLength_8 : decode b_ST_commonLength 8 = .ok (.aload_n 0, 1) := by decide +kernel
theorem d_ST_commonLength_9 : decode b_ST_commonLength 9 = .ok (.iload_n 2, 1) := by decide +kernel
theorem d_ST_commonLength_10 : decode b_ST_commonLength 10 = .ok (.invokevirtual 15, 3) := by decide +kernel
theorem d_ST_commonLength_13 : decode b_ST_commonLength 13 = .ok (.ifCond .ne 5, 3) := by decide +kernel
theorem d_ST_commonLength_16 : decode b_ST_commonLength 16 = .ok (.iconst (-1), 1) := by decide +kernel
theorem d_ST_commonLength_17 : decode b_ST_commonLength 17 = .ok (.ireturn, 1) := by decide +kernel
theorem d_ST_commonLength_18 : decode b_ST_commonLength 18 = .ok (.iload_n 1, 1) := by decide +kernel
theorem d_ST_commonLength_19 : decode b_ST_commonLength 19 = .ok (.iload_n 2, 1) := by decide +kernel
theorem d_ST_commonLength_20 : decode b_ST_commonLength 20 = .ok (.invokestatic 47, 3) := by decide +kernel
theorem d_ST_commonLength_23 : decode b_ST_commonLength 23 = .ok (.iconst 1, 1) := by decide +kernel
theorem d_ST_commonLength_24 : decode b_ST_commonLength 24 = .ok (.iadd, 1) := by decide +kernel
theorem d_ST_commonLength_25 : decode b_ST_commonLength 25 = .ok (.istore_n 3, 1) := by decide +kernel
theorem d_ST_commonLength_26 : decode b_ST_commonLength 26 = .ok (.iconst 1, 1) := by decide +kernel
theorem d_ST_commonLength_27 : decode b_ST_commonLength 27 = .ok (.istore 4, 2) := by decide +kernel
theorem d_ST_commonLength_29 : decode b_ST_commonLength 29 = .ok (.iload 4, 2) := by decide +kernel
theorem d_ST_commonLength_31 : decode b_ST_commonLength 31 = .ok (.iload_n 3, 1) := by decide +kernel
theorem d_ST_commonLength_32 : decode b_ST_commonLength 32 = .ok (.if_icmp .gt 38, 3) := by decide +kernel
theorem d_ST_commonLength_35 : decode b_ST_commonLength 35 = .ok (.aload_n 0, 1) := by decide +kernel
theorem d_ST_commonLength_36 : decode b_ST_commonLength 36 = .ok (.iload_n 1, 1) := by decide +kernel
theorem d_ST_commonLength_37 : decode b_ST_commonLength 37 = .ok (.iload 4, 2) := by decide +kernel
theorem d_ST_commonLength_39 : decode b_ST_commonLength 39 = .ok (.isub, 1) := by decide +kernel
theorem d_ST_commonLength_40 : decode b_ST_commonLength 40 = .ok (.iconst 1, 1) := by decide +kernel
theorem d_ST_commonLength_41 : decode b_ST_commonLength 41 = .ok (.iadd, 1) := by decide +kernel
theorem d_ST_commonLength_42 : decode b_ST_commonLength 42 = .ok (.invokevirtual 44, 3) := by decide +kernel
theorem d_ST_commonLength_45 : decode b_ST_commonLength 45 = .ok (.ifCond .ne 16, 3) := by decide +kernel
theorem d_ST_commonLength_48 : decode b_ST_commonLength 48 = .ok (.aload_n 0, 1) := by decide +kernel
theorem d_ST_commonLength_49 : decode b_ST_commonLength 49 = .ok (.iload_n 2, 1) := by decide +kernel
theorem d_ST_commonLength_50 : decode b_ST_commonLength 50 = .ok (.iload 4, 2) := by decide +kernel
theorem d_ST_commonLength_52 : decode b_ST_commonLength 52 = .ok (.isub, 1) := by decide +kernel
theorem d_ST_commonLength_53 : decode b_ST_commonLength 53 = .ok (.iconst 1, 1) := by decide +kernel
theorem d_ST_commonLength_54 : decode b_ST_commonLength 54 = .ok (.iadd, 1) := by decide +kernel
theorem d_ST_commonLength_55 : decode b_ST_commonLength 55 = .ok (.invokevirtual 44, 3) := by decide +kernel
theorem d_ST_commonLength_58 : decode b_ST_commonLength 58 = .ok (.ifCond .eq 6, 3) := by decide +kernel
theorem d_ST_commonLength_61 : decode b_ST_commonLength 61 = .ok (.iload 4, 2) := by decide +kernel
theorem d_ST_commonLength_63 : decode b_ST_commonLength 63 = .ok (.ireturn, 1) := by decide +kernel
theorem d_ST_commonLength_64 : decode b_ST_commonLength 64 = .ok (.iinc 4 1, 3) := by decide +kernel
theorem d_ST_commonLength_67 : decode b_ST_commonLength 67 = .ok (.goto (-38), 3) := by decide +kernel
theorem d_ST_commonLength_70 : decode b_ST_commonLength 70 = .ok (.iconst (-1), 1) := by decide +kernel
theorem d_ST_commonLength_71 : decode b_ST_commonLength 71 = .ok (.ireturn, 1) := by decide +kernel
theorem d_ST_address_0 : decode b_ST_address 0 = .ok (.aload_n 0, 1) := by decide +kernel
theorem d_ST_address_1 : decode b_ST_address 1 = .ok (.iload_n 1, 1) := by decide +kernel
theorem d_ST_address_2 : decode b_ST_address 2 = .ok (.invokevirtual 19, 3) := by decide +kernel
theorem d_ST_address_5 : decode b_ST_address 5 = .ok (.bipush 16, 2) := by decide +kernel
theorem d_ST_address_7 : decode b_ST_address 7 = .ok (.idiv, 1) := by decide +kernel
theorem d_ST_address_8 : decode b_ST_address 8 = .ok (.aload_n 0, 1) := by decide +kernel
theorem d_ST_address_9 : decode b_ST_address 9 = .ok (.iload_n 1, 1) := by decide +kernel
theorem d_ST_address_10 : decode b_ST_address 10 = .ok (.iconst 2, 1) := by decide +kernel
theorem d_ST_address_11 : decode b_ST_address 11 = .ok (.iadd, 1) := by decide +kernel
theorem d_ST_address_12 : decode b_ST_address 12 = .ok (.invokevirtual 19, 3) := by decide +kernel
theorem d_ST_address_15 : decode b_ST_address 15 = .ok (.bipush 16, 2) := by decide +kernel
theorem d_ST_address_17 : decode b_ST_address 17 = .ok (.idiv, 1) := by decide +kernel
theorem d_ST_address_18 : decode b_ST_address 18 = .ok (.iconst 4, 1) := by decide +kernel
theorem d_ST_address_19 : decode b_ST_address 19 = .ok (.imul, 1) := by decide +kernel
theorem d_ST_address_20 : decode b_ST_address 20 = .ok (.iadd, 1) := by decide +kernel
theorem d_ST_address_21 : decode b_ST_address 21 = .ok (.istore_n 2, 1) := by decide +kernel
theorem d_ST_address_22 : decode b_ST_address 22 = .ok (.iload_n 2, 1) := by decide +kernel
theorem d_ST_address_23 : decode b_ST_address 23 = .ok (.sipush 1000, 3) := by decide +kernel
theorem d_ST_address_26 : decode b_ST_address 26 = .ok (.imul, 1) := by decide +kernel
theorem d_ST_address_27 : decode b_ST_address 27 = .ok (.aload_n 0, 1) := by decide +kernel
theorem d_ST_address_28 : decode b_ST_address 28 = .ok (.iload_n 1, 1) := by decide +kernel
theorem d_ST_address_29 : decode b_ST_address 29 = .ok (.invokevirtual 52, 3) := by decide +kernel
theorem d_ST_address_32 : decode b_ST_address 32 = .ok (.bipush 100, 2) := by decide +kernel
theorem d_ST_address_34 : decode b_ST_address 34 = .ok (.imul, 1) := by decide +kernel
theorem d_ST_address_35 : decode b_ST_address 35 = .ok (.iadd, 1) := by decide +kernel
theorem d_ST_address_36 : decode b_ST_address 36 = .ok (.aload_n 0, 1) := by decide +kernel
theorem d_ST_address_37 : decode b_ST_address 37 = .ok (.iload_n 1, 1) := by decide +kernel
theorem d_ST_address_38 : decode b_ST_address 38 = .ok (.iconst 1, 1) := by decide +kernel
theorem d_ST_address_39 : decode b_ST_address 39 = .ok (.iadd, 1) := by decide +kernel
theorem d_ST_address_40 : decode b_ST_address 40 = .ok (.invokevirtual 52, 3) := by decide +kernel
theorem d_ST_address_43 : decode b_ST_address 43 = .ok (.bipush 10, 2) := by decide +kernel
theorem d_ST_address_45 : decode b_ST_address 45 = .ok (.imul, 1) := by decide +kernel
theorem d_ST_address_46 : decode b_ST_address 46 = .ok (.iadd, 1) := by decide +kernel
theorem d_ST_address_47 : decode b_ST_address 47 = .ok (.aload_n 0, 1) := by decide +kernel
theorem d_ST_address_48 : decode b_ST_address 48 = .ok (.iload_n 1, 1) := by decide +kernel
theorem d_ST_address_49 : decode b_ST_address 49 = .ok (.iconst 2, 1) := by decide +kernel
theorem d_ST_address_50 : decode b_ST_address 50 = .ok (.iadd, 1) := by decide +kernel
theorem d_ST_address_51 : decode b_ST_address 51 = .ok (.invokevirtual 52, 3) := by decide +kernel
theorem d_ST_address_54 : decode b_ST_address 54 = .ok (.iadd, 1) := by decide +kernel
theorem d_ST_address_55 : decode b_ST_address 55 = .ok (.ireturn, 1) := by decide +kernel
theorem d_ST_writeAddress_0 : decode b_ST_writeAddress 0 = .ok (.iload_n 2, 1) := by decide +kernel
theorem d_ST_writeAddress_1 : decode b_ST_writeAddress 1 = .ok (.sipush 1000, 3) := by decide +kernel
theorem d_ST_writeAddress_4 : decode b_ST_writeAddress 4 = .ok (.idiv, 1) := by decide +kernel
theorem d_ST_writeAddress_5 : decode b_ST_writeAddress 5 = .ok (.istore_n 3, 1) := by decide +kernel
theorem d_ST_writeAddress_6 : decode b_ST_writeAddress 6 = .ok (.aload_n 0, 1) := by decide +kernel
theorem d_ST_writeAddress_7 : decode b_ST_writeAddress 7 = .ok (.iload_n 1, 1) := by decide +kernel
theorem d_ST_writeAddress_8 : decode b_ST_writeAddress 8 = .ok (.iconst 2, 1) := by decide +kernel
theorem d_ST_writeAddress_9 : decode b_ST_writeAddress 9 = .ok (.isub, 1) := by decide +kernel
theorem d_ST_writeAddress_10 : decode b_ST_writeAddress 10 = .ok (.iload_n 2, 1) := by decide +kernel
theorem d_ST_writeAddress_11 : decode b_ST_writeAddress 11 = .ok (.bipush 100, 2) := by decide +kernel
theorem d_ST_writeAddress_13 : decode b_ST_writeAddress 13 = .ok (.idiv, 1) := by decide +kernel
theorem d_ST_writeAddress_14 : decode b_ST_writeAddress 14 = .ok (.bipush 10, 2) := by decide +kernel
theorem d_ST_writeAddress_16 : decode b_ST_writeAddress 16 = .ok (.irem, 1) := by decide +kernel
theorem d_ST_writeAddress_17 : decode b_ST_writeAddress 17 = .ok (.invokestatic 55, 3) := by decide +kernel
theorem d_ST_writeAddress_20 : decode b_ST_writeAddress 20 = .ok (.iload_n 3, 1) := by decide +kernel
theorem d_ST_writeAddress_21 : decode b_ST_writeAddress 21 = .ok (.iconst 4, 1) := by decide +kernel
theorem d_ST_writeAddress_22 : decode b_ST_writeAddress 22 = .ok (.irem, 1) := by decide +kernel
theorem d_ST_writeAddress_23 : decode b_ST_writeAddress 23 = .ok (.bipush 16, 2) := by decide +kernel
theorem d_ST_writeAddress_25 : decode b_ST_writeAddress 25 = .ok (.imul, 1) := by decide +kernel
theorem d_ST_writeAddress_26 : decode b_ST_writeAddress 26 = .ok (.ior, 1) := by decide +kernel
theorem d_ST_writeAddress_27 : decode b_ST_writeAddress 27 = .ok (.invokevirtual 26, 3) := by decide +kernel
theorem d_ST_writeAddress_30 : decode b_ST_writeAddress 30 = .ok (.aload_n 0, 1) := by decide +kernel
theorem d_ST_writeAddress_31 : decode b_ST_writeAddress 31 = .ok (.iload_n 1, 1) := by decide +kernel
theorem d_ST_writeAddress_32 : decode b_ST_writeAddress 32 = .ok (.iconst 1, 1) := by decide +kernel
theorem d_ST_writeAddress_33 : decode b_ST_writeAddress 33 = .ok (.isub, 1) := by decide +kernel
theorem d_ST_writeAddress_34 : decode b_ST_writeAddress 34 = .ok (.iload_n 2, 1) := by decide +kernel
theorem d_ST_writeAddress_35 : decode b_ST_writeAddress 35 = .ok (.bipush 10, 2) := by decide +kernel
theorem d_ST_writeAddress_37 : decode b_ST_writeAddress 37 = .ok (.idiv, 1) := by decide +kernel
theorem d_ST_writeAddress_38 : decode b_ST_writeAddress 38 = .ok (.bipush 10, 2) := by decide +kernel
theorem d_ST_writeAddress_40 : decode b_ST_writeAddress 40 = .ok (.irem, 1) := by decide +kernel
theorem d_ST_writeAddress_41 : decode b_ST_writeAddress 41 = .ok (.invokestatic 55, 3) := by decide +kernel
theorem d_ST_writeAddress_44 : decode b_ST_writeAddress 44 = .ok (.invokevirtual 26, 3) := by decide +kernel
theorem d_ST_writeAddress_47 : decode b_ST_writeAddress 47 = .ok (.aload_n 0, 1) := by decide +kernel
theorem d_ST_writeAddress_48 : decode b_ST_writeAddress 48 = .ok (.iload_n 1, 1) := by decide +kernel
theorem d_ST_writeAddress_49 : decode b_ST_writeAddress 49 = .ok (.iload_n 2, 1) := by decide +kernel
theorem d_ST_writeAddress_50 : decode b_ST_writeAddress 50 = .ok (.bipush 10, 2) := by decide +kernel
theorem d_ST_writeAddress_52 : decode b_ST_writeAddress 52 = .ok (.irem, 1) := by decide +kernel
theorem d_ST_writeAddress_53 : decode b_ST_writeAddress 53 = .ok (.invokestatic 55, 3) := by decide +kernel
theorem d_ST_writeAddress_56 : decode b_ST_writeAddress 56 = .ok (.iload_n 3, 1) := by decide +kernel
theorem d_ST_writeAddress_57 : decode b_ST_writeAddress 57 = .ok (.iconst 4, 1) := by decide +kernel
theorem d_ST_writeAddress_58 : decode b_ST_writeAddress 58 = .ok (.idiv, 1) := by decide +kernel
theorem d_ST_writeAddress_59 : decode b_ST_writeAddress 59 = .ok (.bipush 16, 2) := by decide +kernel
theorem d_ST_writeAddress_61 : decode b_ST_writeAddress 61 = .ok (.imul, 1) := by decide +kernel
theorem d_ST_writeAddress_62 : decode b_ST_writeAddress 62 = .ok (.ior, 1) := by decide +kernel
theorem d_ST_writeAddress_63 : decode b_ST_writeAddress 63 = .ok (.invokevirtual 26, 3) := by decide +kernel
theorem d_ST_writeAddress_66 : decode b_ST_writeAddress 66 = .ok (.return_, 1) := by decide +kernel
theorem d_ST_markCount_0 : decode b_ST_markCount 0 = .ok (.iconst 0, 1) := by decide +kernel
theorem d_ST_markCount_1 : decode b_ST_markCount 1 = .ok (.istore_n 1, 1) := by decide +kernel
theorem d_ST_markCount_2 : decode b_ST_markCount 2 = .ok (.iconst 0, 1) := by decide +kernel
theorem d_ST_markCount_3 : decode b_ST_markCount 3 = .ok (.istore_n 2, 1) := by decide +kernel
theorem d_ST_markCount_4 : decode b_ST_markCount 4 = .ok (.iload_n 2, 1) := by decide +kernel
theorem d_ST_markCount_5 : decode b_ST_markCount 5 = .ok (.aload_n 0, 1) := by decide +kernel
theorem d_ST_markCount_6 : decode b_ST_markCount 6 = .ok (.getfield 9, 3) := by decide +kernel
theorem d_ST_markCount_9 : decode b_ST_markCount 9 = .ok (.arraylength, 1) := by decide +kernel
theorem d_ST_markCount_10 : decode b_ST_markCount 10 = .ok (.if_icmp .ge 20, 3) := by decide +kernel
theorem d_ST_markCount_13 : decode b_ST_markCount 13 = .ok (.aload_n 0, 1) := by decide +kernel
theorem d_ST_markCount_14 : decode b_ST_markCount 14 = .ok (.iload_n 2, 1) := by decide +kernel
theorem d_ST_markCount_15 : decode b_ST_markCount 15 = .ok (.invokevirtual 44, 3) := by decide +kernel
theorem d_ST_markCount_18 : decode b_ST_markCount 18 = .ok (.ifCond .eq 6, 3) := by decide +kernel
theorem d_ST_markCount_21 : decode b_ST_markCount 21 = .ok (.iinc 1 1, 3) := by decide +kernel
theorem d_ST_markCount_24 : decode b_ST_markCount 24 = .ok (.iinc 2 1, 3) := by decide +kernel
theorem d_ST_markCount_27 : decode b_ST_markCount 27 = .ok (.goto (-23), 3) := by decide +kernel
theorem d_ST_markCount_30 : decode b_ST_markCount 30 = .ok (.iload_n 1, 1) := by decide +kernel
theorem d_ST_markCount_31 : decode b_ST_markCount 31 = .ok (.ireturn, 1) := by decide +kernel
end
section
theorem d_CM_init_0 : decode b_CM_init 0 = .ok (.aload_n 0, 1) := by decide +kernel
theorem d_CM_init_1 : decode b_CM_init 1 = .ok (.invokespecial 1, 3) := by decide +kernel
theorem d_CM_init_4 : decode b_CM_init 4 = .ok (.aload_n 0, 1) := by decide +kernel
theorem d_CM_init_5 : decode b_CM_init 5 = .ok (.new 7, 3) := by decide +kernel
theorem d_CM_init_8 : decode b_CM_init 8 = .ok (.dup, 1) := by decide +kernel
theorem d_CM_init_9 : decode b_CM_init 9 = .ok (.iload_n 1, 1) := by decide +kernel
theorem d_CM_init_10 : decode b_CM_init 10 = .ok (.sipush 400, 3) := by decide +kernel
theorem d_CM_init_13 : decode b_CM_init 13 = .ok (.if_icmp .lt 10, 3) := by decide +kernel
theorem d_CM_init_16 : decode b_CM_init 16 = .ok (.iload_n 1, 1) := by decide +kernel
theorem d_CM_init_17 : decode b_CM_init 17 = .ok (.sipush 2000, 3) := by decide +kernel
theorem d_CM_init_20 : decode b_CM_init 20 = .ok (.if_icmp .le 9, 3) := by decide +kernel
theorem d_CM_init_23 : decode b_CM_init 23 = .ok (.sipush 1400, 3) := by decide +kernel
theorem d_CM_init_26 : decode b_CM_init 26 = .ok (.goto 4, 3) := by decide +kernel
theorem d_CM_init_29 : decode b_CM_init 29 = .ok (.iload_n 1, 1) := by decide +kernel
theorem d_CM_init_30 : decode b_CM_init 30 = .ok (.invokespecial 11, 3) := by decide +kernel
theorem d_CM_init_33 : decode b_CM_init 33 = .ok (.putfield 14, 3) := by decide +kernel
theorem d_CM_init_36 : decode b_CM_init 36 = .ok (.aload_n 0, 1) := by decide +kernel
theorem d_CM_init_37 : decode b_CM_init 37 = .ok (.new 18, 3) := by decide +kernel
theorem d_CM_init_40 : decode b_CM_init 40 = .ok (.dup, 1) := by decide +kernel
theorem d_CM_init_41 : decode b_CM_init 41 = .ok (.bipush 20, 2) := by decide +kernel
theorem d_CM_init_43 : decode b_CM_init 43 = .ok (.bipush 80, 2) := by decide +kernel
theorem d_CM_init_45 : decode b_CM_init 45 = .ok (.invokespecial 20, 3) := by decide +kernel
theorem d_CM_init_48 : decode b_CM_init 48 = .ok (.putfield 23, 3) := by decide +kernel
theorem d_CM_init_51 : decode b_CM_init 51 = .ok (.aload_n 0, 1) := by decide +kernel
theorem d_CM_init_52 : decode b_CM_init 52 = .ok (.new 18, 3) := by decide +kernel
theorem d_CM_init_55 : decode b_CM_init 55 = .ok (.dup, 1) := by decide +kernel
theorem d_CM_init_56 : decode b_CM_init 56 = .ok (.bipush 40, 2) := by decide +kernel
theorem d_CM_init_58 : decode b_CM_init 58 = .ok (.sipush 132, 3) := by decide +kernel
theorem d_CM_init_61 : decode b_CM_init 61 = .ok (.invokespecial 20, 3) := by decide +kernel
theorem d_CM_init_64 : decode b_CM_init 64 = .ok (.putfield 27, 3) := by decide +kernel
theorem d_CM_init_67 : decode b_CM_init 67 = .ok (.aload_n 0, 1) := by decide +kernel
theorem d_CM_init_68 : decode b_CM_init 68 = .ok (.new 18, 3) := by decide +kernel
theorem d_CM_init_71 : decode b_CM_init 71 = .ok (.dup, 1) := by decide +kernel
theorem d_CM_init_72 : decode b_CM_init 72 = .ok (.bipush 20, 2) := by decide +kernel
theorem d_CM_init_74 : decode b_CM_init 74 = .ok (.bipush 80, 2) := by decide +kernel
theorem d_CM_init_76 : decode b_CM_init 76 = .ok (.invokespecial 20, 3) := by decide +kernel
theorem d_CM_init_79 : decode b_CM_init 79 = .ok (.putfield 30, 3) := by decide +kernel
theorem d_CM_init_82 : decode b_CM_init 82 = .ok (.aload_n 0, 1) := by decide +kernel
theorem d_CM_init_83 : decode b_CM_init 83 = .ok (.new 33, 3) := by decide +kernel
theorem d_CM_init_86 : decode b_CM_init 86 = .ok (.dup, 1) := by decide +kernel
theorem d_CM_init_87 : decode b_CM_init 87 = .ok (.aload_n 0, 1) := by decide +kernel
theorem d_CM_init_88 : decode b_CM_init 88 = .ok (.getfield 14, 3) := by decide +kernel
theorem d_CM_init_91 : decode b_CM_init 91 = .ok (.aload_n 0, 1) := by decide +kernel
theorem d_CM_init_92 : decode b_CM_init 92 = .ok (.getfield 23, 3) := by decide +kernel
theorem d_CM_init_95 : decode b_CM_init 95 = .ok (.aload_n 0, 1) := by decide +kernel
theorem d_CM_init_96 : decode b_CM_init 96 = .ok (.getfield 27, 3) := by decide +kernel
theorem d_CM_init_99 : decode b_CM_init 99 = .ok (.aload_n 0, 1) := by decide +kernel
theorem d_CM_init_100 : decode b_CM_init 100 = .ok (.getfield 30, 3) := by decide +kernel
theorem d_CM_init_103 : decode b_CM_init 103 = .ok (.invokespecial 35, 3) := by decide +kernel
theorem d_CM_init_106 : decode b_CM_init 106 = .ok (.putfield 38, 3) := by decide +kernel
theorem d_CM_init_109 : decode b_CM_init 109 = .ok (.return_, 1) := by decide +kernel
theorem d_CM_set_0 : decode b_CM_set 0 = .ok (.aload_n 0, 1) := by decide +kernel
theorem d_CM_set_1 : decode b_CM_set 1 = .ok (.getfield 14, 3) := by decide +kernel
theorem d_CM_set_4 : decode b_CM_set 4 = .ok (.iload_n 1, 1) := by decide +kernel
theorem d_CM_set_5 : decode b_CM_set 5 = .ok (.invokevirtual 42, 3) := by decide +kernel
theorem d_CM_set_8 : decode b_CM_set 8 = .ok (.ifCond .eq 10, 3) := by decide +kernel
theorem d_CM_set_11 : decode b_CM_set 11 = .ok (.iload_n 2, 1) := by decide +kernel
theorem d_CM_set_12 : decode b_CM_set 12 = .ok (.invokestatic 46, 3) := by decide +kernel
theorem d_CM_set_15 : decode b_CM_set 15 = .ok (.ifCond .ne 5, 3) := by decide +kernel
theorem d_CM_set_18 : decode b_CM_set 18 = .ok (.iconst 0, 1) := by decide +kernel
theorem d_CM_set_19 : decode b_CM_set 19 = .ok (.ireturn, 1) := by decide +kernel
theorem d_CM_set_20 : decode b_CM_set 20 = .ok (.aload_n 0, 1) := by decide +kernel
theorem d_CM_set_21 : decode b_CM_set 21 = .ok (.getfield 14, 3) := by decide +kernel
theorem d_CM_set_24 : decode b_CM_set 24 = .ok (.iload_n 1, 1) := by decide +kernel
theorem d_CM_set_25 : decode b_CM_set 25 = .ok (.iload_n 2, 1) := by decide +kernel
theorem d_CM_set_26 : decode b_CM_set 26 = .ok (.iload_n 3, 1) := by decide +kernel
theorem d_CM_set_27 : decode b_CM_set 27 = .ok (.invokevirtual 49, 3) := by decide +kernel
theorem d_CM_set_30 : decode b_CM_set 30 = .ok (.iconst 1, 1) := by decide +kernel
theorem d_CM_set_31 : decode b_CM_set 31 = .ok (.ireturn, 1) := by decide +kernel
theorem d_CM_put_0 : decode b_CM_put 0 = .ok (.lload_n 2, 1) := by decide +kernel
theorem d_CM_put_1 : decode b_CM_put 1 = .ok (.invokestatic 53, 3) := by decide +kernel
theorem d_CM_put_4 : decode b_CM_put 4 = .ok (.istore 5, 2) := by decide +kernel
theorem d_CM_put_6 : decode b_CM_put 6 = .ok (.iload 5, 2) := by decide +kernel
theorem d_CM_put_8 : decode b_CM_put 8 = .ok (.ifCond .le 29, 3) := by decide +kernel
theorem d_CM_put_11 : decode b_CM_put 11 = .ok (.iload_n 1, 1) := by decide +kernel
theorem d_CM_put_12 : decode b_CM_put 12 = .ok (.ifCond .lt 17, 3) := by decide +kernel
theorem d_CM_put_15 : decode b_CM_put 15 = .ok (.iload_n 1, 1) := by decide +kernel
theorem d_CM_put_16 : decode b_CM_put 16 = .ok (.aload_n 0, 1) := by decide +kernel
theorem d_CM_put_17 : decode b_CM_put 17 = .ok (.getfield 14, 3) := by decide +kernel
theorem d_CM_put_20 : decode b_CM_put 20 = .ok (.invokevirtual 57, 3) := by decide +kernel
theorem d_CM_put_23 : decode b_CM_put 23 = .ok (.iload 5, 2) := by decide +kernel
theorem d_CM_put_25 : decode b_CM_put 25 = .ok (.isub, 1) := by decide +kernel
theorem d_CM_put_26 : decode b_CM_put 26 = .ok (.if_icmp .le 11, 3) := by decide +kernel
theorem d_CM_put_29 : decode b_CM_put 29 = .ok (.new 61, 3) := by decide +kernel
theorem d_CM_put_32 : decode b_CM_put 32 = .ok (.dup, 1) := by decide +kernel
theorem d_CM_put_33 : decode b_CM_put 33 = .ok (.invokespecial 63, 3) := by decide +kernel
theorem d_CM_put_36 : decode b_CM_put 36 = .ok (.athrow, 1) := by decide +kernel
theorem d_CM_put_37 : decode b_CM_put 37 = .ok (.iconst 0, 1) := by decide +kernel
theorem d_CM_put_38 : decode b_CM_put 38 = .ok (.istore 6, 2) := by decide +kernel
theorem d_CM_put_40 : decode b_CM_put 40 = .ok (.iload 6, 2) := by decide +kernel
theorem d_CM_put_42 : decode b_CM_put 42 = .ok (.iload 5, 2) := by decide +kernel
theorem d_CM_put_44 : decode b_CM_put 44 = .ok (.if_icmp .ge 42, 3) := by decide +kernel
theorem d_CM_put_47 : decode b_CM_put 47 = .ok (.aload_n 0, 1) := by decide +kernel
theorem d_CM_put_48 : decode b_CM_put 48 = .ok (.getfield 14, 3) := by decide +kernel
theorem d_CM_put_51 : decode b_CM_put 51 = .ok (.iload_n 1, 1) := by decide +kernel
theorem d_CM_put_52 : decode b_CM_put 52 = .ok (.iload 6, 2) := by decide +kernel
theorem d_CM_put_54 : decode b_CM_put 54 = .ok (.iadd, 1) := by decide +kernel
theorem d_CM_put_55 : decode b_CM_put 55 = .ok (.lload_n 2, 1) := by decide +kernel
theorem d_CM_put_56 : decode b_CM_put 56 = .ok (.iload 6, 2) := by decide +kernel
theorem d_CM_put_58 : decode b_CM_put 58 = .ok (.invokestatic 64, 3) := by decide +kernel
theorem d_CM_put_61 : decode b_CM_put 61 = .ok (.iload 4, 2) := by decide +kernel
theorem d_CM_put_63 : decode b_CM_put 63 = .ok (.iload 6, 2) := by decide +kernel
theorem d_CM_put_65 : decode b_CM_put 65 = .ok (.ishr, 1) := by decide +kernel
theorem d_CM_put_66 : decode b_CM_put 66 = .ok (.iconst 1, 1) := by decide +kernel
theorem d_CM_put_67 : decode b_CM_put 67 = .ok (.iand, 1) := by decide +kernel
theorem d_CM_put_68 : decode b_CM_put 68 = .ok (.iconst 1, 1) := by decide +kernel
theorem d_CM_put_69 : decode b_CM_put 69 = .ok (.if_icmp .ne 7, 3) := by decide +kernel
theorem d_CM_put_72 : decode b_CM_put 72 = .ok (.iconst 1, 1) := by decide +kernel
theorem d_CM_put_73 : decode b_CM_put 73 = .ok (.goto 4, 3) := by decide +kernel
theorem d_CM_put_76 : decode b_CM_put 76 = .ok (.iconst 0, 1) := by decide +kernel
theorem d_CM_put_77 : decode b_CM_put 77 = .ok (.invokevirtual 49, 3) := by decide +kernel
theorem d_CM_put_80 : decode b_CM_put 80 = .ok (.iinc 6 1, 3) := by decide +kernel
theorem d_CM_put_83 : decode b_CM_put 83 = .ok (.goto (-43), 3) := by decide +kernel
theorem d_CM_put_86 : decode b_CM_put 86 = .ok (.iload 5, 2) := by decide +kernel
theorem d_CM_put_88 : decode b_CM_put 88 = .ok (.ireturn, 1) := by decide +kernel
theorem d_CM_column_0 : decode b_CM_column 0 = .ok (.iload_n 1, 1) := by decide +kernel
theorem d_CM_column_1 : decode b_CM_column 1 = .ok (.iconst 1, 1) := by decide +kernel
theorem d_CM_column_2 : decode b_CM_column 2 = .ok (.if_icmp .lt 16, 3) := by decide +kernel
theorem d_CM_column_5 : decode b_CM_column 5 = .ok (.iload_n 1, 1) := by decide +kernel
theorem d_CM_column_6 : decode b_CM_column 6 = .ok (.bipush 80, 2) := by decide +kernel
theorem d_CM_column_8 : decode b_CM_column 8 = .ok (.if_icmp .gt 10, 3) := by decide +kernel
theorem d_CM_column_11 : decode b_CM_column 11 = .ok (.iload_n 2, 1) := by decide +kernel
theorem d_CM_column_12 : decode b_CM_column 12 = .ok (.invokestatic 46, 3) := by decide +kernel
theorem d_CM_column_15 : decode b_CM_column 15 = .ok (.ifCond .ne 5, 3) := by decide +kernel
theorem d_CM_column_18 : decode b_CM_column 18 = .ok (.iconst 0, 1) := by decide +kernel
theorem d_CM_column_19 : decode b_CM_column 19 = .ok (.ireturn, 1) := by decide +kernel
theorem d_CM_column_20 : decode b_CM_column 20 = .ok (.aload_n 0, 1) := by decide +kernel
theorem d_CM_column_21 : decode b_CM_column 21 = .ok (.getfield 23, 3) := by decide +kernel
theorem d_CM_column_24 : decode b_CM_column 24 = .ok (.iload_n 1, 1) := by decide +kernel
theorem d_CM_column_25 : decode b_CM_column 25 = .ok (.iload_n 2, 1) := by decide +kernel
theorem d_CM_column_26 : decode b_CM_column 26 = .ok (.invokevirtual 68, 3) := by decide +kernel
theorem d_CM_column_29 : decode b_CM_column 29 = .ok (.iconst 1, 1) := by decide +kernel
theorem d_CM_column_30 : decode b_CM_column 30 = .ok (.ireturn, 1) := by decide +kernel
theorem d_CM_card_0 : decode b_CM_card 0 = .ok (.aload_n 0, 1) := by decide +kernel
theorem d_CM_card_1 : decode b_CM_card 1 = .ok (.getfield 23, 3) := by decide +kernel
theorem d_CM_card_4 : decode b_CM_card 4 = .ok (.invokevirtual 71, 3) := by decide +kernel
theorem d_CM_card_7 : decode b_CM_card 7 = .ok (.ifCond .eq 11, 3) := by decide +kernel
theorem d_CM_card_10 : decode b_CM_card 10 = .ok (.new 75, 3) := by decide +kernel
theorem d_CM_card_13 : decode b_CM_card 13 = .ok (.dup, 1) := by decide +kernel
theorem d_CM_card_14 : decode b_CM_card 14 = .ok (.invokespecial 77, 3) := by decide +kernel
theorem d_CM_card_17 : decode b_CM_card 17 = .ok (.athrow, 1) := by decide +kernel
theorem d_CM_card_18 : decode b_CM_card 18 = .ok (.aload_n 0, 1) := by decide +kernel
theorem d_CM_card_19 : decode b_CM_card 19 = .ok (.getfield 23, 3) := by decide +kernel
theorem d_CM_card_22 : decode b_CM_card 22 = .ok (.invokevirtual 78, 3) := by decide +kernel
theorem d_CM_card_25 : decode b_CM_card 25 = .ok (.aload_n 0, 1) := by decide +kernel
theorem d_CM_card_26 : decode b_CM_card 26 = .ok (.getfield 38, 3) := by decide +kernel
theorem d_CM_card_29 : decode b_CM_card 29 = .ok (.invokevirtual 81, 3) := by decide +kernel
theorem d_CM_card_32 : decode b_CM_card 32 = .ok (.ireturn, 1) := by decide +kernel
theorem d_CM_start_0 : decode b_CM_start 0 = .ok (.aload_n 0, 1) := by decide +kernel
theorem d_CM_start_1 : decode b_CM_start 1 = .ok (.getfield 14, 3) := by decide +kernel
theorem d_CM_start_4 : decode b_CM_start 4 = .ok (.iload_n 1, 1) := by decide +kernel
theorem d_CM_start_5 : decode b_CM_start 5 = .ok (.invokevirtual 42, 3) := by decide +kernel
theorem d_CM_start_8 : decode b_CM_start 8 = .ok (.ifCond .ne 5, 3) := by decide +kernel
theorem d_CM_start_11 : decode b_CM_start 11 = .ok (.iconst 0, 1) := by decide +kernel
theorem d_CM_start_12 : decode b_CM_start 12 = .ok (.ireturn, 1) := by decide +kernel
theorem d_CM_start_13 : decode b_CM_start 13 = .ok (.aload_n 0, 1) := by decide +kernel
theorem d_CM_start_14 : decode b_CM_start 14 = .ok (.getfield 38, 3) := by decide +kernel
theorem d_CM_start_17 : decode b_CM_start 17 = .ok (.iload_n 1, 1) := by decide +kernel
theorem d_CM_start_18 : decode b_CM_start 18 = .ok (.putfield 84, 3) := by decide +kernel
theorem d_CM_start_21 : decode b_CM_start 21 = .ok (.iconst 1, 1) := by decide +kernel
theorem d_CM_start_22 : decode b_CM_start 22 = .ok (.ireturn, 1) := by decide +kernel
theorem d_CM_run_0 : decode b_CM_run 0 = .ok (.iload_n 1, 1) := by decide +kernel
theorem d_CM_run_1 : decode b_CM_run 1 = .ok (.iconst 1, 1) := by decide +kernel
theorem d_CM_run_2 : decode b_CM_run 2 = .ok (.if_icmp .lt 10, 3) := by decide +kernel
theorem d_CM_run_5 : decode b_CM_run 5 = .ok (.iload_n 1, 1) := by decide +kernel
theorem d_CM_run_6 : decode b_CM_run 6 = .ok (.sipush 20000, 3) := by decide +kernel
theorem d_CM_run_9 : decode b_CM_run 9 = .ok (.if_icmp .le 11, 3) := by decide +kernel
theorem d_CM_run_12 : decode b_CM_run 12 = .ok (.new 61, 3) := by decide +kernel
theorem d_CM_run_15 : decode b_CM_run 15 = .ok (.dup, 1) := by decide +kernel
theorem d_CM_run_16 : decode b_CM_run 16 = .ok (.invokespecial 63, 3) := by decide +kernel
theorem d_CM_run_19 : decode b_CM_run 19 = .ok (.athrow, 1) := by decide +kernel
theorem d_CM_run_20 : decode b_CM_run 20 = .ok (.iconst 0, 1) := by decide +kernel
theorem d_CM_run_21 : decode b_CM_run 21 = .ok (.istore_n 2, 1) := by decide +kernel
theorem d_CM_run_22 : decode b_CM_run 22 = .ok (.iconst 0, 1) := by decide +kernel
theorem d_CM_run_23 : decode b_CM_run 23 = .ok (.istore_n 3, 1) := by decide +kernel
theorem d_CM_run_24 : decode b_CM_run 24 = .ok (.iload_n 3, 1) := by decide +kernel
theorem d_CM_run_25 : decode b_CM_run 25 = .ok (.iload_n 1, 1) := by decide +kernel
theorem d_CM_run_26 : decode b_CM_run 26 = .ok (.if_icmp .ge 31, 3) := by decide +kernel
theorem d_CM_run_29 : decode b_CM_run 29 = .ok (.iload_n 2, 1) := by decide +kernel
theorem d_CM_run_30 : decode b_CM_run 30 = .ok (.ifCond .ne 27, 3) := by decide +kernel
theorem d_CM_run_33 : decode b_CM_run 33 = .ok (.aload_n 0, 1) := by decide +kernel
theorem d_CM_run_34 : decode b_CM_run 34 = .ok (.getfield 38, 3) := by decide +kernel
theorem d_CM_run_37 : decode b_CM_run 37 = .ok (.invokevirtual 88, 3) := by decide +kernel
theorem d_CM_run_40 : decode b_CM_run 40 = .ok (.istore_n 2, 1) := by decide +kernel
theorem d_CM_run_41 : decode b_CM_run 41 = .ok (.aload_n 0, 1) := by decide +kernel
theorem d_CM_run_42 : decode b_CM_run 42 = .ok (.dup, 1) := by decide +kernel
theorem d_CM_run_43 : decode b_CM_run 43 = .ok (.getfield 91, 3) := by decide +kernel
theorem d_CM_run_46 : decode b_CM_run 46 = .ok (.iconst 1, 1) := by decide +kernel
theorem d_CM_run_47 : decode b_CM_run 47 = .ok (.iadd, 1) := by decide +kernel
theorem d_CM_run_48 : decode b_CM_run 48 = .ok (.putfield 91, 3) := by decide +kernel
theorem d_CM_run_51 : decode b_CM_run 51 = .ok (.iinc 3 1, 3) := by decide +kernel
theorem d_CM_run_54 : decode b_CM_run 54 = .ok (.goto (-30), 3) := by decide +kernel
theorem d_CM_run_57 : decode b_CM_run 57 = .ok (.aload_n 0, 1) := by decide +kernel
theorem d_CM_run_58 : decode b_CM_run 58 = .ok (.iload_n 2, 1) := by decide +kernel
theorem d_CM_run_59 : decode b_CM_run 59 = .ok (.putfield 94, 3) := by decide +kernel
theorem d_CM_run_62 : decode b_CM_run 62 = .ok (.iload_n 2, 1) := by decide +kernel
theorem d_CM_run_63 : decode b_CM_run 63 = .ok (.ireturn, 1) := by decide +kernel
theorem d_CM_at_0 : decode b_CM_at 0 = .ok (.aload_n 0, 1) := by decide +kernel
theorem d_CM_at_1 : decode b_CM_at 1 = .ok (.getfield 14, 3) := by decide +kernel
theorem d_CM_at_4 : decode b_CM_at 4 = .ok (.iload_n 1, 1) := by decide +kernel
theorem d_CM_at_5 : decode b_CM_at 5 = .ok (.invokevirtual 42, 3) := by decide +kernel
theorem d_CM_at_8 : decode b_CM_at 8 = .ok (.ifCond .ne 11, 3) := by decide +kernel
theorem d_CM_at_11 : decode b_CM_at 11 = .ok (.new 97, 3) := by decide +kernel
theorem d_CM_at_14 : decode b_CM_at 14 = .ok (.dup, 1) := by decide +kernel
theorem d_CM_at_15 : decode b_CM_at 15 = .ok (.invokespecial 99, 3) := by decide +kernel
theorem d_CM_at_18 : decode b_CM_at 18 = .ok (.athrow, 1) := by decide +kernel
theorem d_CM_at_19 : decode b_CM_at 19 = .ok (.aload_n 0, 1) := by decide +kernel
theorem d_CM_at_20 : decode b_CM_at 20 = .ok (.getfield 14, 3) := by decide +kernel
theorem d_CM_at_23 : decode b_CM_at 23 = .ok (.iload_n 1, 1) := by decide +kernel
theorem d_CM_at_24 : decode b_CM_at 24 = .ok (.invokevirtual 100, 3) := by decide +kernel
theorem d_CM_at_27 : decode b_CM_at 27 = .ok (.ireturn, 1) := by decide +kernel
theorem d_CM_isMarked_0 : decode b_CM_isMarked 0 = .ok (.aload_n 0, 1) := by decide +kernel
theorem d_CM_isMarked_1 : decode b_CM_isMarked 1 = .ok (.getfield 14, 3) := by decide +kernel
theorem d_CM_isMarked_4 : decode b_CM_isMarked 4 = .ok (.iload_n 1, 1) := by decide +kernel
theorem d_CM_isMarked_5 : decode b_CM_isMarked 5 = .ok (.invokevirtual 42, 3) := by decide +kernel
theorem d_CM_isMarked_8 : decode b_CM_isMarked 8 = .ok (.ifCond .ne 11, 3) := by decide +kernel
theorem d_CM_isMarked_11 : decode b_CM_isMarked 11 = .ok (.new 97, 3) := by decide +kernel
theorem d_CM_isMarked_14 : decode b_CM_isMarked 14 = .ok (.dup, 1) := by decide +kernel
theorem d_CM_isMarked_15 : decode b_CM_isMarked 15 = .ok (.invokespecial 99, 3) := by decide +kernel
theorem d_CM_isMarked_18 : decode b_CM_isMarked 18 = .ok (.athrow, 1) := by decide +kernel
theorem d_CM_isMarked_19 : decode b_CM_isMarked 19 = .ok (.aload_n 0, 1) := by decide +kernel
theorem d_CM_isMarked_20 : decode b_CM_isMarked 20 = .ok (.getfield 14, 3) := by decide +kernel
theorem d_CM_isMarked_23 : decode b_CM_isMarked 23 = .ok (.iload_n 1, 1) := by decide +kernel
theorem d_CM_isMarked_24 : decode b_CM_isMarked 24 = .ok (.invokevirtual 104, 3) := by decide +kernel
theorem d_CM_isMarked_27 : decode b_CM_isMarked 27 = .ok (.ireturn, 1) := by decide +kernel
theorem d_CM_state_0 : decode b_CM_state 0 = .ok (.iload_n 1, 1) := by decide +kernel
theorem d_CM_state_1 : decode b_CM_state 1 = .ok (.tableswitch 133 0 8 #[51, 59, 67, 75, 83, 99, 115, 120, 125], 51) := by decide +kernel
theorem d_CM_state_52 : decode b_CM_state 52 = .ok (.aload_n 0, 1) := by decide +kernel
theorem d_CM_state_53 : decode b_CM_state 53 = .ok (.getfield 38, 3) := by decide +kernel
theorem d_CM_state_56 : decode b_CM_state 56 = .ok (.getfield 84, 3) := by decide +kernel
theorem d_CM_state_59 : decode b_CM_state 59 = .ok (.ireturn, 1) := by decide +kernel
theorem d_CM_state_60 : decode b_CM_state 60 = .ok (.aload_n 0, 1) := by decide +kernel
theorem d_CM_state_61 : decode b_CM_state 61 = .ok (.getfield 38, 3) := by decide +kernel
theorem d_CM_state_64 : decode b_CM_state 64 = .ok (.getfield 107, 3) := by decide +kernel
theorem d_CM_state_67 : decode b_CM_state 67 = .ok (.ireturn, 1) := by decide +kernel
theorem d_CM_state_68 : decode b_CM_state 68 = .ok (.aload_n 0, 1) := by decide +kernel
theorem d_CM_state_69 : decode b_CM_state 69 = .ok (.getfield 38, 3) := by decide +kernel
theorem d_CM_state_72 : decode b_CM_state 72 = .ok (.getfield 110, 3) := by decide +kernel
theorem d_CM_state_75 : decode b_CM_state 75 = .ok (.ireturn, 1) := by decide +kernel
theorem d_CM_state_76 : decode b_CM_state 76 = .ok (.aload_n 0, 1) := by decide +kernel
theorem d_CM_state_77 : decode b_CM_state 77 = .ok (.getfield 38, 3) := by decide +kernel
theorem d_CM_state_80 : decode b_CM_state 80 = .ok (.getfield 113, 3) := by decide +kernel
theorem d_CM_state_83 : decode b_CM_state 83 = .ok (.ireturn, 1) := by decide +kernel
theorem d_CM_state_84 : decode b_CM_state 84 = .ok (.aload_n 0, 1) := by decide +kernel
theorem d_CM_state_85 : decode b_CM_state 85 = .ok (.getfield 38, 3) := by decide +kernel
theorem d_CM_state_88 : decode b_CM_state 88 = .ok (.getfield 116, 3) := by decide +kernel
theorem d_CM_state_91 : decode b_CM_state 91 = .ok (.ifCond .eq 7, 3) := by decide +kernel
theorem d_CM_state_94 : decode b_CM_state 94 = .ok (.iconst 1, 1) := by decide +kernel
theorem d_CM_state_95 : decode b_CM_state 95 = .ok (.goto 4, 3) := by decide +kernel
theorem d_CM_state_98 : decode b_CM_state 98 = .ok (.iconst 0, 1) := by decide +kernel
theorem d_CM_state_99 : decode b_CM_state 99 = .ok (.ireturn, 1) := by decide +kernel
theorem d_CM_state_100 : decode b_CM_state 100 = .ok (.aload_n 0, 1) := by decide +kernel
theorem d_CM_state_101 : decode b_CM_state 101 = .ok (.getfield 38, 3) := by decide +kernel
theorem d_CM_state_104 : decode b_CM_state 104 = .ok (.getfield 120, 3) := by decide +kernel
theorem d_CM_state_107 : decode b_CM_state 107 = .ok (.ifCond .eq 7, 3) := by decide +kernel
theorem d_CM_state_110 : decode b_CM_state 110 = .ok (.iconst 1, 1) := by decide +kernel
theorem d_CM_state_111 : decode b_CM_state 111 = .ok (.goto 4, 3) := by decide +kernel
theorem d_CM_state_114 : decode b_CM_state 114 = .ok (.iconst 0, 1) := by decide +kernel
theorem d_CM_state_115 : decode b_CM_state 115 = .ok (.ireturn, 1) := by decide +kernel
theorem d_CM_state_116 : decode b_CM_state 116 = .ok (.aload_n 0, 1) := by decide +kernel
theorem d_CM_state_117 : decode b_CM_state 117 = .ok (.getfield 91, 3) := by decide +kernel
theorem d_CM_state_120 : decode b_CM_state 120 = .ok (.ireturn, 1) := by decide +kernel
theorem d_CM_state_121 : decode b_CM_state 121 = .ok (.aload_n 0, 1) := by decide +kernel
theorem d_CM_state_122 : decode b_CM_state 122 = .ok (.getfield 94, 3) := by decide +kernel
theorem d_CM_state_125 : decode b_CM_state 125 = .ok (.ireturn, 1) := by decide +kernel
theorem d_CM_state_126 : decode b_CM_state 126 = .ok (.aload_n 0, 1) := by decide +kernel
theorem d_CM_state_127 : decode b_CM_state 127 = .ok (.getfield 14, 3) := by decide +kernel
theorem d_CM_state_130 : decode b_CM_state 130 = .ok (.invokevirtual 57, 3) := by decide +kernel
theorem d_CM_state_133 : decode b_CM_state 133 = .ok (.ireturn, 1) := by decide +kernel
theorem d_CM_state_134 : decode b_CM_state 134 = .ok (.iconst (-1), 1) := by decide +kernel
theorem d_CM_state_135 : decode b_CM_state 135 = .ok (.ireturn, 1) := by decide +kernel
theorem d_CM_printed_0 : decode b_CM_printed 0 = .ok (.aload_n 0, 1) := by decide +kernel
theorem d_CM_printed_1 : decode b_CM_printed 1 = .ok (.getfield 27, 3) := by decide +kernel
theorem d_CM_printed_4 : decode b_CM_printed 4 = .ok (.iload_n 1, 1) := by decide +kernel
theorem d_CM_printed_5 : decode b_CM_printed 5 = .ok (.iload_n 2, 1) := by decide +kernel
theorem d_CM_printed_6 : decode b_CM_printed 6 = .ok (.invokevirtual 123, 3) := by decide +kernel
theorem d_CM_printed_9 : decode b_CM_printed 9 = .ok (.ifCond .ne 11, 3) := by decide +kernel
theorem d_CM_printed_12 : decode b_CM_printed 12 = .ok (.new 97, 3) := by decide +kernel
theorem d_CM_printed_15 : decode b_CM_printed 15 = .ok (.dup, 1) := by decide +kernel
theorem d_CM_printed_16 : decode b_CM_printed 16 = .ok (.invokespecial 99, 3) := by decide +kernel
theorem d_CM_printed_19 : decode b_CM_printed 19 = .ok (.athrow, 1) := by decide +kernel
theorem d_CM_printed_20 : decode b_CM_printed 20 = .ok (.aload_n 0, 1) := by decide +kernel
theorem d_CM_printed_21 : decode b_CM_printed 21 = .ok (.getfield 27, 3) := by decide +kernel
theorem d_CM_printed_24 : decode b_CM_printed 24 = .ok (.iload_n 1, 1) := by decide +kernel
theorem d_CM_printed_25 : decode b_CM_printed 25 = .ok (.iload_n 2, 1) := by decide +kernel
theorem d_CM_printed_26 : decode b_CM_printed 26 = .ok (.invokevirtual 127, 3) := by decide +kernel
theorem d_CM_printed_29 : decode b_CM_printed 29 = .ok (.ireturn, 1) := by decide +kernel
theorem d_CM_punched_0 : decode b_CM_punched 0 = .ok (.aload_n 0, 1) := by decide +kernel
theorem d_CM_punched_1 : decode b_CM_punched 1 = .ok (.getfield 30, 3) := by decide +kernel
theorem d_CM_punched_4 : decode b_CM_punched 4 = .ok (.iload_n 1, 1) := by decide +kernel
theorem d_CM_punched_5 : decode b_CM_punched 5 = .ok (.iload_n 2, 1) := by decide +kernel
theorem d_CM_punched_6 : decode b_CM_punched 6 = .ok (.invokevirtual 123, 3) := by decide +kernel
theorem d_CM_punched_9 : decode b_CM_punched 9 = .ok (.ifCond .ne 11, 3) := by decide +kernel
theorem d_CM_punched_12 : decode b_CM_punched 12 = .ok (.new 97, 3) := by decide +kernel
theorem d_CM_punched_15 : decode b_CM_punched 15 = .ok (.dup, 1) := by decide +kernel
theorem d_CM_punched_16 : decode b_CM_punched 16 = .ok (.invokespecial 99, 3) := by decide +kernel
theorem d_CM_punched_19 : decode b_CM_punched 19 = .ok (.athrow, 1) := by decide +kernel
theorem d_CM_punched_20 : decode b_CM_punched 20 = .ok (.aload_n 0, 1) := by decide +kernel
theorem d_CM_punched_21 : decode b_CM_punched 21 = .ok (.getfield 30, 3) := by decide +kernel
theorem d_CM_punched_24 : decode b_CM_punched 24 = .ok (.iload_n 1, 1) := by decide +kernel
theorem d_CM_punched_25 : decode b_CM_punched 25 = .ok (.iload_n 2, 1) := by decide +kernel
theorem d_CM_punched_26 : decode b_CM_punched 26 = .ok (.invokevirtual 127, 3) := by decide +kernel
theorem d_CM_punched_29 : decode b_CM_punched 29 = .ok (.ireturn, 1) := by decide +kernel
theorem d_CM_number_0 : decode b_CM_number 0 = .ok (.aload_n 0, 1) := by decide +kernel
theorem d_CM_number_1 : decode b_CM_number 1 = .ok (.getfield 14, 3) := by decide +kernel
theorem d_CM_number_4 : decode b_CM_number 4 = .ok (.iload_n 1, 1) := by decide +kernel
theorem d_CM_number_5 : decode b_CM_number 5 = .ok (.invokevirtual 130, 3) := by decide +kernel
theorem d_CM_number_8 : decode b_CM_number 8 = .ok (.istore_n 2, 1) := by decide +kernel
theorem d_CM_number_9 : decode b_CM_number 9 = .ok (.iload_n 2, 1) := by decide +kernel
theorem d_CM_number_10 : decode b_CM_number 10 = .ok (.iconst (-1), 1) := by decide +kernel
theorem d_CM_number_11 : decode b_CM_number 11 = .ok (.if_icmp .ne 11, 3) := by decide +kernel
theorem d_CM_number_14 : decode b_CM_number 14 = .ok (.new 97, 3) := by decide +kernel
theorem d_CM_number_17 : decode b_CM_number 17 = .ok (.dup, 1) := by decide +kernel
theorem d_CM_number_18 : decode b_CM_number 18 = .ok (.invokespecial 99, 3) := by decide +kernel
theorem d_CM_number_21 : decode b_CM_number 21 = .ok (.athrow, 1) := by decide +kernel
theorem d_CM_number_22 : decode b_CM_number 22 = .ok (.iload_n 2, 1) := by decide +kernel
theorem d_CM_number_23 : decode b_CM_number 23 = .ok (.bipush 18, 2) := by decide +kernel
theorem d_CM_number_25 : decode b_CM_number 25 = .ok (.if_icmp .le 11, 3) := by decide +kernel
theorem d_CM_number_28 : decode b_CM_number 28 = .ok (.new 133, 3) := by decide +kernel
theorem d_CM_number_31 : decode b_CM_number 31 = .ok (.dup, 1) := by decide +kernel
theorem d_CM_number_32 : decode b_CM_number 32 = .ok (.invokespecial 135, 3) := by decide +kernel
theorem d_CM_number_35 : decode b_CM_number 35 = .ok (.athrow, 1) := by decide +kernel
theorem d_CM_number_36 : decode b_CM_number 36 = .ok (.lconst 0, 1) := by decide +kernel
theorem d_CM_number_37 : decode b_CM_number 37 = .ok (.lstore_n 3, 1) := by decide +kernel
theorem d_CM_number_38 : decode b_CM_number 38 = .ok (.iload_n 2, 1) := by decide +kernel
theorem d_CM_number_39 : decode b_CM_number 39 = .ok (.iconst 1, 1) := by decide +kernel
theorem d_CM_number_40 : decode b_CM_number 40 = .ok (.isub, 1) := by decide +kernel
theorem d_CM_number_41 : decode b_CM_number 41 = .ok (.istore 5, 2) := by decide +kernel
theorem d_CM_number_43 : decode b_CM_number 43 = .ok (.iload 5, 2) := by decide +kernel
theorem d_CM_number_45 : decode b_CM_number 45 = .ok (.ifCond .lt 28, 3) := by decide +kernel
theorem d_CM_number_48 : decode b_CM_number 48 = .ok (.lload_n 3, 1) := by decide +kernel
theorem d_CM_number_49 : decode b_CM_number 49 = .ok (.ldc2_w 136, 3) := by decide +kernel
theorem d_CM_number_52 : decode b_CM_number 52 = .ok (.lmul, 1) := by decide +kernel
theorem d_CM_number_53 : decode b_CM_number 53 = .ok (.aload_n 0, 1) := by decide +kernel
theorem d_CM_number_54 : decode b_CM_number 54 = .ok (.getfield 14, 3) := by decide +kernel
theorem d_CM_number_57 : decode b_CM_number 57 = .ok (.iload_n 1, 1) := by decide +kernel
theorem d_CM_number_58 : decode b_CM_number 58 = .ok (.iload 5, 2) := by decide +kernel
theorem d_CM_number_60 : decode b_CM_number 60 = .ok (.isub, 1) := by decide +kernel
theorem d_CM_number_61 : decode b_CM_number 61 = .ok (.invokevirtual 138, 3) := by decide +kernel
theorem d_CM_number_64 : decode b_CM_number 64 = .ok (.i2l, 1) := by decide +kernel
theorem d_CM_number_65 : decode b_CM_number 65 = .ok (.ladd, 1) := by decide +kernel
theorem d_CM_number_66 : decode b_CM_number 66 = .ok (.lstore_n 3, 1) := by decide +kernel
theorem d_CM_number_67 : decode b_CM_number 67 = .ok (.iinc 5 (-1), 3) := by decide +kernel
theorem d_CM_number_70 : decode b_CM_number 70 = .ok (.goto (-27), 3) := by decide +kernel
theorem d_CM_number_73 : decode b_CM_number 73 = .ok (.aload_n 0, 1) := by decide +kernel
theorem d_CM_number_74 : decode b_CM_number 74 = .ok (.getfield 14, 3) := by decide +kernel
theorem d_CM_number_77 : decode b_CM_number 77 = .ok (.iload_n 1, 1) := by decide +kernel
theorem d_CM_number_78 : decode b_CM_number 78 = .ok (.invokevirtual 141, 3) := by decide +kernel
theorem d_CM_number_81 : decode b_CM_number 81 = .ok (.ifCond .eq 8, 3) := by decide +kernel
theorem d_CM_number_84 : decode b_CM_number 84 = .ok (.lload_n 3, 1) := by decide +kernel
theorem d_CM_number_85 : decode b_CM_number 85 = .ok (.lneg, 1) := by decide +kernel
theorem d_CM_number_86 : decode b_CM_number 86 = .ok (.goto 4, 3) := by decide +kernel
theorem d_CM_number_89 : decode b_CM_number 89 = .ok (.lload_n 3, 1) := by decide +kernel
theorem d_CM_number_90 : decode b_CM_number 90 = .ok (.lreturn, 1) := by decide +kernel
theorem d_CM_count_0 : decode b_CM_count 0 = .ok (.iload_n 1, 1) := by decide +kernel
theorem d_CM_count_1 : decode b_CM_count 1 = .ok (.tableswitch 63 0 3 #[31, 39, 47, 55], 31) := by decide +kernel
theorem d_CM_count_32 : decode b_CM_count 32 = .ok (.aload_n 0, 1) := by decide +kernel
theorem d_CM_count_33 : decode b_CM_count 33 = .ok (.getfield 38, 3) := by decide +kernel
theorem d_CM_count_36 : decode b_CM_count 36 = .ok (.invokevirtual 81, 3) := by decide +kernel
theorem d_CM_count_39 : decode b_CM_count 39 = .ok (.ireturn, 1) := by decide +kernel
theorem d_CM_count_40 : decode b_CM_count 40 = .ok (.aload_n 0, 1) := by decide +kernel
theorem d_CM_count_41 : decode b_CM_count 41 = .ok (.getfield 27, 3) := by decide +kernel
theorem d_CM_count_44 : decode b_CM_count 44 = .ok (.invokevirtual 144, 3) := by decide +kernel
theorem d_CM_count_47 : decode b_CM_count 47 = .ok (.ireturn, 1) := by decide +kernel
theorem d_CM_count_48 : decode b_CM_count 48 = .ok (.aload_n 0, 1) := by decide +kernel
theorem d_CM_count_49 : decode b_CM_count 49 = .ok (.getfield 30, 3) := by decide +kernel
theorem d_CM_count_52 : decode b_CM_count 52 = .ok (.invokevirtual 144, 3) := by decide +kernel
theorem d_CM_count_55 : decode b_CM_count 55 = .ok (.ireturn, 1) := by decide +kernel
theorem d_CM_count_56 : decode b_CM_count 56 = .ok (.aload_n 0, 1) := by decide +kernel
theorem d_CM_count_57 : decode b_CM_count 57 = .ok (.getfield 14, 3) := by decide +kernel
theorem d_CM_count_60 : decode b_CM_count 60 = .ok (.invokevirtual 147, 3) := by decide +kernel
theorem d_CM_count_63 : decode b_CM_count 63 = .ok (.ireturn, 1) := by decide +kernel
theorem d_CM_count_64 : decode b_CM_count 64 = .ok (.iconst (-1), 1) := by decide +kernel
theorem d_CM_count_65 : decode b_CM_count 65 = .ok (.ireturn, 1) := by decide +kernel
theorem d_CM_isCharacter_0 : decode b_CM_isCharacter 0 = .ok (.iload_n 0, 1) := by decide +kernel
theorem d_CM_isCharacter_1 : decode b_CM_isCharacter 1 = .ok (.ifCond .lt 13, 3) := by decide +kernel
theorem d_CM_isCharacter_4 : decode b_CM_isCharacter 4 = .ok (.iload_n 0, 1) := by decide +kernel
theorem d_CM_isCharacter_5 : decode b_CM_isCharacter 5 = .ok (.bipush 64, 2) := by decide +kernel
theorem d_CM_isCharacter_7 : decode b_CM_isCharacter 7 = .ok (.if_icmp .ge 7, 3) := by decide +kernel
theorem d_CM_isCharacter_10 : decode b_CM_isCharacter 10 = .ok (.iconst 1, 1) := by decide +kernel
theorem d_CM_isCharacter_11 : decode b_CM_isCharacter 11 = .ok (.goto 4, 3) := by decide +kernel
theorem d_CM_isCharacter_14 : decode b_CM_isCharacter 14 = .ok (.iconst 0, 1) := by decide +kernel
theorem d_CM_isCharacter_15 : decode b_CM_isCharacter 15 = .ok (.ireturn, 1) := by decide +kernel
theorem d_CM_byteOf_0 : decode b_CM_byteOf 0 = .ok (.lload_n 0, 1) := by decide +kernel
theorem d_CM_byteOf_1 : decode b_CM_byteOf 1 = .ok (.bipush 56, 2) := by decide +kernel
theorem d_CM_byteOf_3 : decode b_CM_byteOf 3 = .ok (.bipush 8, 2) := by decide +kernel
theorem d_CM_byteOf_5 : decode b_CM_byteOf 5 = .ok (.iload_n 2, 1) := by decide +kernel
theorem d_CM_byteOf_6 : decode b_CM_byteOf 6 = .ok (.imul, 1) := by decide +kernel
theorem d_CM_byteOf_7 : decode b_CM_byteOf 7 = .ok (.isub, 1) := by decide +kernel
theorem d_CM_byteOf_8 : decode b_CM_byteOf 8 = .ok (.lushr, 1) := by decide +kernel
theorem d_CM_byteOf_9 : decode b_CM_byteOf 9 = .ok (.ldc2_w 150, 3) := by decide +kernel
theorem d_CM_byteOf_12 : decode b_CM_byteOf 12 = .ok (.land, 1) := by decide +kernel
theorem d_CM_byteOf_13 : decode b_CM_byteOf 13 = .ok (.l2i, 1) := by decide +kernel
theorem d_CM_byteOf_14 : decode b_CM_byteOf 14 = .ok (.ireturn, 1) := by decide +kernel
theorem d_CM_charactersIn_0 : decode b_CM_charactersIn 0 = .ok (.iconst 0, 1) := by decide +kernel
theorem d_CM_charactersIn_1 : decode b_CM_charactersIn 1 = .ok (.istore_n 2, 1) := by decide +kernel
theorem d_CM_charactersIn_2 : decode b_CM_charactersIn 2 = .ok (.iload_n 2, 1) := by decide +kernel
theorem d_CM_charactersIn_3 : decode b_CM_charactersIn 3 = .ok (.bipush 8, 2) := by decide +kernel
theorem d_CM_charactersIn_5 : decode b_CM_charactersIn 5 = .ok (.if_icmp .ge 20, 3) := by decide +kernel
theorem d_CM_charactersIn_8 : decode b_CM_charactersIn 8 = .ok (.lload_n 0, 1) := by decide +kernel
theorem d_CM_charactersIn_9 : decode b_CM_charactersIn 9 = .ok (.iload_n 2, 1) := by decide +kernel
theorem d_CM_charactersIn_10 : decode b_CM_charactersIn 10 = .ok (.invokestatic 64, 3) := by decide +kernel
theorem d_CM_charactersIn_13 : decode b_CM_charactersIn 13 = .ok (.invokestatic 46, 3) := by decide +kernel
theorem d_CM_charactersIn_16 : decode b_CM_charactersIn 16 = .ok (.ifCond .eq 9, 3) := by decide +kernel
theorem d_CM_charactersIn_19 : decode b_CM_charactersIn 19 = .ok (.iinc 2 1, 3) := by decide +kernel
theorem d_CM_charactersIn_22 : decode b_CM_charactersIn 22 = .ok (.goto (-20), 3) := by decide +kernel
theorem d_CM_charactersIn_25 : decode b_CM_charactersIn 25 = .ok (.iload_n 2, 1) := by decide +kernel
theorem d_CM_charactersIn_26 : decode b_CM_charactersIn 26 = .ok (.ireturn, 1) := by decide +kernel
theorem d_CM_written_0 : decode b_CM_written 0 = .ok (.iload_n 0, 1) := by decide +kernel
theorem d_CM_written_1 : decode b_CM_written 1 = .ok (.ifCond .ne 8, 3) := by decide +kernel
theorem d_CM_written_4 : decode b_CM_written 4 = .ok (.bipush 10, 2) := by decide +kernel
theorem d_CM_written_6 : decode b_CM_written 6 = .ok (.goto 4, 3) := by decide +kernel
theorem d_CM_written_9 : decode b_CM_written 9 = .ok (.iload_n 0, 1) := by decide +kernel
theorem d_CM_written_10 : decode b_CM_written 10 = .ok (.ireturn, 1) := by decide +kernel
theorem d_CM_signZone_0 : decode b_CM_signZone 0 = .ok (.iload_n 0, 1) := by decide +kernel
theorem d_CM_signZone_1 : decode b_CM_signZone 1 = .ok (.ifCond .eq 8, 3) := by decide +kernel
theorem d_CM_signZone_4 : decode b_CM_signZone 4 = .ok (.bipush 32, 2) := by decide +kernel
theorem d_CM_signZone_6 : decode b_CM_signZone 6 = .ok (.goto 5, 3) := by decide +kernel
theorem d_CM_signZone_9 : decode b_CM_signZone 9 = .ok (.bipush 48, 2) := by decide +kernel
theorem d_CM_signZone_11 : decode b_CM_signZone 11 = .ok (.ireturn, 1) := by decide +kernel
end
section
theorem d_MO_init_0 : decode b_MO_init 0 = .ok (.aload_n 0, 1) := by decide +kernel
theorem d_MO_init_1 : decode b_MO_init 1 = .ok (.invokespecial 1, 3) := by decide +kernel
theorem d_MO_init_4 : decode b_MO_init 4 = .ok (.aload_n 0, 1) := by decide +kernel
theorem d_MO_init_5 : decode b_MO_init 5 = .ok (.sipush 2000, 3) := by decide +kernel
theorem d_MO_init_8 : decode b_MO_init 8 = .ok (.newarray .byte, 2) := by decide +kernel
theorem d_MO_init_10 : decode b_MO_init 10 = .ok (.putfield 7, 3) := by decide +kernel
theorem d_MO_init_13 : decode b_MO_init 13 = .ok (.aload_n 0, 1) := by decide +kernel
theorem d_MO_init_14 : decode b_MO_init 14 = .ok (.sipush 2000, 3) := by decide +kernel
theorem d_MO_init_17 : decode b_MO_init 17 = .ok (.newarray .boolean, 2) := by decide +kernel
theorem d_MO_init_19 : decode b_MO_init 19 = .ok (.putfield 13, 3) := by decide +kernel
theorem d_MO_init_22 : decode b_MO_init 22 = .ok (.aload_n 0, 1) := by decide +kernel
theorem d_MO_init_23 : decode b_MO_init 23 = .ok (.bipush 80, 2) := by decide +kernel
theorem d_MO_init_25 : decode b_MO_init 25 = .ok (.newarray .byte, 2) := by decide +kernel
theorem d_MO_init_27 : decode b_MO_init 27 = .ok (.putfield 17, 3) := by decide +kernel
theorem d_MO_init_30 : decode b_MO_init 30 = .ok (.aload_n 0, 1) := by decide +kernel
theorem d_MO_init_31 : decode b_MO_init 31 = .ok (.sipush 1600, 3) := by decide +kernel
theorem d_MO_init_34 : decode b_MO_init 34 = .ok (.newarray .byte, 2) := by decide +kernel
theorem d_MO_init_36 : decode b_MO_init 36 = .ok (.putfield 20, 3) := by decide +kernel
theorem d_MO_init_39 : decode b_MO_init 39 = .ok (.aload_n 0, 1) := by decide +kernel
theorem d_MO_init_40 : decode b_MO_init 40 = .ok (.sipush 5280, 3) := by decide +kernel
theorem d_MO_init_43 : decode b_MO_init 43 = .ok (.newarray .byte, 2) := by decide +kernel
theorem d_MO_init_45 : decode b_MO_init 45 = .ok (.putfield 23, 3) := by decide +kernel
theorem d_MO_init_48 : decode b_MO_init 48 = .ok (.aload_n 0, 1) := by decide +kernel
theorem d_MO_init_49 : decode b_MO_init 49 = .ok (.sipush 1600, 3) := by decide +kernel
theorem d_MO_init_52 : decode b_MO_init 52 = .ok (.newarray .byte, 2) := by decide +kernel
theorem d_MO_init_54 : decode b_MO_init 54 = .ok (.putfield 26, 3) := by decide +kernel
theorem d_MO_init_57 : decode b_MO_init 57 = .ok (.aload_n 0, 1) := by decide +kernel
theorem d_MO_init_58 : decode b_MO_init 58 = .ok (.sipush 2000, 3) := by decide +kernel
theorem d_MO_init_61 : decode b_MO_init 61 = .ok (.newarray .int, 2) := by decide +kernel
theorem d_MO_init_63 : decode b_MO_init 63 = .ok (.putfield 29, 3) := by decide +kernel
theorem d_MO_init_66 : decode b_MO_init 66 = .ok (.aload_n 0, 1) := by decide +kernel
theorem d_MO_init_67 : decode b_MO_init 67 = .ok (.sipush 2000, 3) := by decide +kernel
theorem d_MO_init_70 : decode b_MO_init 70 = .ok (.newarray .int, 2) := by decide +kernel
theorem d_MO_init_72 : decode b_MO_init 72 = .ok (.putfield 33, 3) := by decide +kernel
theorem d_MO_init_75 : decode b_MO_init 75 = .ok (.aload_n 0, 1) := by decide +kernel
theorem d_MO_init_76 : decode b_MO_init 76 = .ok (.sipush 2000, 3) := by decide +kernel
theorem d_MO_init_79 : decode b_MO_init 79 = .ok (.newarray .byte, 2) := by decide +kernel
theorem d_MO_init_81 : decode b_MO_init 81 = .ok (.putfield 36, 3) := by decide +kernel
theorem d_MO_init_84 : decode b_MO_init 84 = .ok (.aload_n 0, 1) := by decide +kernel
theorem d_MO_init_85 : decode b_MO_init 85 = .ok (.iload_n 1, 1) := by decide +kernel
theorem d_MO_init_86 : decode b_MO_init 86 = .ok (.sipush 400, 3) := by decide +kernel
theorem d_MO_init_89 : decode b_MO_init 89 = .ok (.if_icmp .lt 14, 3) := by decide +kernel
theorem d_MO_init_92 : decode b_MO_init 92 = .ok (.iload_n 1, 1) := by decide +kernel
theorem d_MO_init_93 : decode b_MO_init 93 = .ok (.sipush 2000, 3) := by decide +kernel
theorem d_MO_init_96 : decode b_MO_init 96 = .ok (.if_icmp .gt 7, 3) := by decide +kernel
theorem d_MO_init_99 : decode b_MO_init 99 = .ok (.iload_n 1, 1) := by decide +kernel
theorem d_MO_init_100 : decode b_MO_init 100 = .ok (.goto 6, 3) := by decide +kernel
theorem d_MO_init_103 : decode b_MO_init 103 = .ok (.sipush 1400, 3) := by decide +kernel
theorem d_MO_init_106 : decode b_MO_init 106 = .ok (.putfield 39, 3) := by decide +kernel
theorem d_MO_init_109 : decode b_MO_init 109 = .ok (.return_, 1) := by decide +kernel
theorem d_MO_thrown_0 : decode b_MO_thrown 0 = .ok (.aload_n 0, 1) := by decide +kernel
theorem d_MO_thrown_1 : decode b_MO_thrown 1 = .ok (.getfield 43, 3) := by decide +kernel
theorem d_MO_thrown_4 : decode b_MO_thrown 4 = .ok (.ireturn, 1) := by decide +kernel
theorem d_MO_is_0 : decode b_MO_is 0 = .ok (.iload_n 1, 1) := by decide +kernel
theorem d_MO_is_1 : decode b_MO_is 1 = .ok (.ifCond .lt 15, 3) := by decide +kernel
theorem d_MO_is_4 : decode b_MO_is 4 = .ok (.iload_n 1, 1) := by decide +kernel
theorem d_MO_is_5 : decode b_MO_is 5 = .ok (.aload_n 0, 1) := by decide +kernel
theorem d_MO_is_6 : decode b_MO_is 6 = .ok (.getfield 39, 3) := by decide +kernel
theorem d_MO_is_9 : decode b_MO_is 9 = .ok (.if_icmp .ge 7, 3) := by decide +kernel
theorem d_MO_is_12 : decode b_MO_is 12 = .ok (.iconst 1, 1) := by decide +kernel
theorem d_MO_is_13 : decode b_MO_is 13 = .ok (.goto 4, 3) := by decide +kernel
theorem d_MO_is_16 : decode b_MO_is 16 = .ok (.iconst 0, 1) := by decide +kernel
theorem d_MO_is_17 : decode b_MO_is 17 = .ok (.ireturn, 1) := by decide +kernel
theorem d_MO_isCharacter_0 : decode b_MO_isCharacter 0 = .ok (.iload_n 0, 1) := by decide +kernel
theorem d_MO_isCharacter_1 : decode b_MO_isCharacter 1 = .ok (.ifCond .lt 13, 3) := by decide +kernel
theorem d_MO_isCharacter_4 : decode b_MO_isCharacter 4 = .ok (.iload_n 0, 1) := by decide +kernel
theorem d_MO_isCharacter_5 : decode b_MO_isCharacter 5 = .ok (.bipush 64, 2) := by decide +kernel
theorem d_MO_isCharacter_7 : decode b_MO_isCharacter 7 = .ok (.if_icmp .ge 7, 3) := by decide +kernel
theorem d_MO_isCharacter_10 : decode b_MO_isCharacter 10 = .ok (.iconst 1, 1) := by decide +kernel
theorem d_MO_isCharacter_11 : decode b_MO_isCharacter 11 = .ok (.goto 4, 3) := by decide +kernel
theorem d_MO_isCharacter_14 : decode b_MO_isCharacter 14 = .ok (.iconst 0, 1) := by decide +kernel
theorem d_MO_isCharacter_15 : decode b_MO_isCharacter 15 = .ok (.ireturn, 1) := by decide +kernel
theorem d_MO_zone_0 : decode b_MO_zone 0 = .ok (.iload_n 0, 1) := by decide +kernel
theorem d_MO_zone_1 : decode b_MO_zone 1 = .ok (.bipush 48, 2) := by decide +kernel
theorem d_MO_zone_3 : decode b_MO_zone 3 = .ok (.iand, 1) := by decide +kernel
theorem d_MO_zone_4 : decode b_MO_zone 4 = .ok (.ireturn, 1) := by decide +kernel
theorem d_MO_value_0 : decode b_MO_value 0 = .ok (.iload_n 0, 1) := by decide +kernel
theorem d_MO_value_1 : decode b_MO_value 1 = .ok (.bipush 15, 2) := by decide +kernel
theorem d_MO_value_3 : decode b_MO_value 3 = .ok (.iand, 1) := by decide +kernel
theorem d_MO_value_4 : decode b_MO_value 4 = .ok (.bipush 10, 2) := by decide +kernel
theorem d_MO_value_6 : decode b_MO_value 6 = .ok (.irem, 1) := by decide +kernel
theorem d_MO_value_7 : decode b_MO_value 7 = .ok (.ireturn, 1) := by decide +kernel
theorem d_MO_digit_0 : decode b_MO_digit 0 = .ok (.iload_n 0, 1) := by decide +kernel
theorem d_MO_digit_1 : decode b_MO_digit 1 = .ok (.ifCond .ne 8, 3) := by decide +kernel
theorem d_MO_digit_4 : decode b_MO_digit 4 = .ok (.bipush 10, 2) := by decide +kernel
theorem d_MO_digit_6 : decode b_MO_digit 6 = .ok (.goto 4, 3) := by decide +kernel
theorem d_MO_digit_9 : decode b_MO_digit 9 = .ok (.iload_n 0, 1) := by decide +kernel
theorem d_MO_digit_10 : decode b_MO_digit 10 = .ok (.ireturn, 1) := by decide +kernel
theorem d_MO_set_0 : decode b_MO_set 0 = .ok (.aload_n 0, 1) := by decide +kernel
theorem d_MO_set_1 : decode b_MO_set 1 = .ok (.iconst 0, 1) := by decide +kernel
theorem d_MO_set_2 : decode b_MO_set 2 = .ok (.putfield 43, 3) := by decide +kernel
theorem d_MO_set_5 : decode b_MO_set 5 = .ok (.aload_n 0, 1) := by decide +kernel
theorem d_MO_set_6 : decode b_MO_set 6 = .ok (.iload_n 1, 1) := by decide +kernel
theorem d_MO_set_7 : decode b_MO_set 7 = .ok (.invokevirtual 46, 3) := by decide +kernel
theorem d_MO_set_10 : decode b_MO_set 10 = .ok (.ifCond .eq 10, 3) := by decide +kernel
theorem d_MO_set_13 : decode b_MO_set 13 = .ok (.iload_n 2, 1) := by decide +kernel
theorem d_MO_set_14 : decode b_MO_set 14 = .ok (.invokestatic 50, 3) := by decide +kernel
theorem d_MO_set_17 : decode b_MO_set 17 = .ok (.ifCond .ne 5, 3) := by decide +kernel
theorem d_MO_set_20 : decode b_MO_set 20 = .ok (.iconst 0, 1) := by decide +kernel
theorem d_MO_set_21 : decode b_MO_set 21 = .ok (.ireturn, 1) := by decide +kernel
theorem d_MO_set_22 : decode b_MO_set 22 = .ok (.aload_n 0, 1) := by decide +kernel
theorem d_MO_set_23 : decode b_MO_set 23 = .ok (.getfield 7, 3) := by decide +kernel
theorem d_MO_set_26 : decode b_MO_set 26 = .ok (.iload_n 1, 1) := by decide +kernel
theorem d_MO_set_27 : decode b_MO_set 27 = .ok (.iload_n 2, 1) := by decide +kernel
theorem d_MO_set_28 : decode b_MO_set 28 = .ok (.i2b, 1) := by decide +kernel
theorem d_MO_set_29 : decode b_MO_set 29 = .ok (.bastore, 1) := by decide +kernel
theorem d_MO_set_30 : decode b_MO_set 30 = .ok (.aload_n 0, 1) := by decide +kernel
theorem d_MO_set_31 : decode b_MO_set 31 = .ok (.getfield 13, 3) := by decide +kernel
theorem d_MO_set_34 : decode b_MO_set 34 = .ok (.iload_n 1, 1) := by decide +kernel
theorem d_MO_set_35 : decode b_MO_set 35 = .ok (.iload_n 3, 1) := by decide +kernel
theorem d_MO_set_36 : decode b_MO_set 36 = .ok (.bastore, 1) := by decide +kernel
theorem d_MO_set_37 : decode b_MO_set 37 = .ok (.iconst 1, 1) := by decide +kernel
theorem d_MO_set_38 : decode b_MO_set 38 = .ok (.ireturn, 1) := by decide +kernel
theorem d_MO_put_0 : decode b_MO_put 0 = .ok (.iconst 0, 1) := by decide +kernel
theorem d_MO_put_1 : decode b_MO_put 1 = .ok (.istore 5, 2) := by decide +kernel
theorem d_MO_put_3 : decode b_MO_put 3 = .ok (.iload 5, 2) := by decide +kernel
theorem d_MO_put_5 : decode b_MO_put 5 = .ok (.bipush 8, 2) := by decide +kernel
theorem d_MO_put_7 : decode b_MO_put 7 = .ok (.if_icmp .ge 30, 3) := by decide +kernel
theorem d_MO_put_10 : decode b_MO_put 10 = .ok (.lload_n 2, 1) := by decide +kernel
theorem d_MO_put_11 : decode b_MO_put 11 = .ok (.bipush 56, 2) := by decide +kernel
theorem d_MO_put_13 : decode b_MO_put 13 = .ok (.bipush 8, 2) := by decide +kernel
theorem d_MO_put_15 : decode b_MO_put 15 = .ok (.iload 5, 2) := by decide +kernel
theorem d_MO_put_17 : decode b_MO_put 17 = .ok (.imul, 1) := by decide +kernel
theorem d_MO_put_18 : decode b_MO_put 18 = .ok (.isub, 1) := by decide +kernel
theorem d_MO_put_19 : decode b_MO_put 19 = .ok (.lshr, 1) := by decide +kernel
theorem d_MO_put_20 : decode b_MO_put 20 = .ok (.ldc2_w 53, 3) := by decide +kernel
theorem d_MO_put_23 : decode b_MO_put 23 = .ok (.land, 1) := by decide +kernel
theorem d_MO_put_24 : decode b_MO_put 24 = .ok (.ldc2_w 55, 3) := by decide +kernel
theorem d_MO_put_27 : decode b_MO_put 27 = .ok (.lcmp, 1) := by decide +kernel
theorem d_MO_put_28 : decode b_MO_put 28 = .ok (.ifCond .ge 9, 3) := by decide +kernel
theorem d_MO_put_31 : decode b_MO_put 31 = .ok (.iinc 5 1, 3) := by decide +kernel
theorem d_MO_put_34 : decode b_MO_put 34 = .ok (.goto (-31), 3) := by decide +kernel
theorem d_MO_put_37 : decode b_MO_put 37 = .ok (.aload_n 0, 1) := by decide +kernel
theorem d_MO_put_38 : decode b_MO_put 38 = .ok (.iload 5, 2) := by decide +kernel
theorem d_MO_put_40 : decode b_MO_put 40 = .ok (.ifCond .le 26, 3) := by decide +kernel
theorem d_MO_put_43 : decode b_MO_put 43 = .ok (.aload_n 0, 1) := by decide +kernel
theorem d_MO_put_44 : decode b_MO_put 44 = .ok (.iload_n 1, 1) := by decide +kernel
theorem d_MO_put_45 : decode b_MO_put 45 = .ok (.invokevirtual 46, 3) := by decide +kernel
theorem d_MO_put_48 : decode b_MO_put 48 = .ok (.ifCond .eq 14, 3) := by decide +kernel
theorem d_MO_put_51 : decode b_MO_put 51 = .ok (.iload_n 1, 1) := by decide +kernel
theorem d_MO_put_52 : decode b_MO_put 52 = .ok (.iload 5, 2) := by decide +kernel
theorem d_MO_put_54 : decode b_MO_put 54 = .ok (.iadd, 1) := by decide +kernel
theorem d_MO_put_55 : decode b_MO_put 55 = .ok (.aload_n 0, 1) := by decide +kernel
theorem d_MO_put_56 : decode b_MO_put 56 = .ok (.getfield 39, 3) := by decide +kernel
theorem d_MO_put_59 : decode b_MO_put 59 = .ok (.if_icmp .le 7, 3) := by decide +kernel
theorem d_MO_put_62 : decode b_MO_put 62 = .ok (.iconst 1, 1) := by decide +kernel
theorem d_MO_put_63 : decode b_MO_put 63 = .ok (.goto 4, 3) := by decide +kernel
theorem d_MO_put_66 : decode b_MO_put 66 = .ok (.iconst 0, 1) := by decide +kernel
theorem d_MO_put_67 : decode b_MO_put 67 = .ok (.putfield 43, 3) := by decide +kernel
theorem d_MO_put_70 : decode b_MO_put 70 = .ok (.iconst 0, 1) := by decide +kernel
theorem d_MO_put_71 : decode b_MO_put 71 = .ok (.istore 6, 2) := by decide +kernel
theorem d_MO_put_73 : decode b_MO_put 73 = .ok (.iload 6, 2) := by decide +kernel
theorem d_MO_put_75 : decode b_MO_put 75 = .ok (.iload 5, 2) := by decide +kernel
theorem d_MO_put_77 : decode b_MO_put 77 = .ok (.if_icmp .ge 66, 3) := by decide +kernel
theorem d_MO_put_80 : decode b_MO_put 80 = .ok (.aload_n 0, 1) := by decide +kernel
theorem d_MO_put_81 : decode b_MO_put 81 = .ok (.getfield 43, 3) := by decide +kernel
theorem d_MO_put_84 : decode b_MO_put 84 = .ok (.ifCond .ne 59, 3) := by decide +kernel
theorem d_MO_put_87 : decode b_MO_put 87 = .ok (.aload_n 0, 1) := by decide +kernel
theorem d_MO_put_88 : decode b_MO_put 88 = .ok (.getfield 7, 3) := by decide +kernel
theorem d_MO_put_91 : decode b_MO_put 91 = .ok (.iload_n 1, 1) := by decide +kernel
theorem d_MO_put_92 : decode b_MO_put 92 = .ok (.iload 6, 2) := by decide +kernel
theorem d_MO_put_94 : decode b_MO_put 94 = .ok (.iadd, 1) := by decide +kernel
theorem d_MO_put_95 : decode b_MO_put 95 = .ok (.lload_n 2, 1) := by decide +kernel
theorem d_MO_put_96 : decode b_MO_put 96 = .ok (.bipush 56, 2) := by decide +kernel
theorem d_MO_put_98 : decode b_MO_put 98 = .ok (.bipush 8, 2) := by decide +kernel
theorem d_MO_put_100 : decode b_MO_put 100 = .ok (.iload 6, 2) := by decide +kernel
theorem d_MO_put_102 : decode b_MO_put 102 = .ok (.imul, 1) := by decide +kernel
theorem d_MO_put_103 : decode b_MO_put 103 = .ok (.isub, 1) := by decide +kernel
theorem d_MO_put_104 : decode b_MO_put 104 = .ok (.lshr, 1) := by decide +kernel
theorem d_MO_put_105 : decode b_MO_put 105 = .ok (.ldc2_w 57, 3) := by decide +kernel
theorem d_MO_put_108 : decode b_MO_put 108 = .ok (.land, 1) := by decide +kernel
theorem d_MO_put_109 : decode b_MO_put 109 = .ok (.l2i, 1) := by decide +kernel
theorem d_MO_put_110 : decode b_MO_put 110 = .ok (.i2b, 1) := by decide +kernel
theorem d_MO_put_111 : decode b_MO_put 111 = .ok (.bastore, 1) := by decide +kernel
theorem d_MO_put_112 : decode b_MO_put 112 = .ok (.aload_n 0, 1) := by decide +kernel
theorem d_MO_put_113 : decode b_MO_put 113 = .ok (.getfield 13, 3) := by decide +kernel
theorem d_MO_put_116 : decode b_MO_put 116 = .ok (.iload_n 1, 1) := by decide +kernel
theorem d_MO_put_117 : decode b_MO_put 117 = .ok (.iload 6, 2) := by decide +kernel
theorem d_MO_put_119 : decode b_MO_put 119 = .ok (.iadd, 1) := by decide +kernel
theorem d_MO_put_120 : decode b_MO_put 120 = .ok (.iload 4, 2) := by decide +kernel
theorem d_MO_put_122 : decode b_MO_put 122 = .ok (.iload 6, 2) := by decide +kernel
theorem d_MO_put_124 : decode b_MO_put 124 = .ok (.ishr, 1) := by decide +kernel
theorem d_MO_put_125 : decode b_MO_put 125 = .ok (.iconst 1, 1) := by decide +kernel
theorem d_MO_put_126 : decode b_MO_put 126 = .ok (.iand, 1) := by decide +kernel
theorem d_MO_put_127 : decode b_MO_put 127 = .ok (.iconst 1, 1) := by decide +kernel
theorem d_MO_put_128 : decode b_MO_put 128 = .ok (.if_icmp .ne 7, 3) := by decide +kernel
theorem d_MO_put_131 : decode b_MO_put 131 = .ok (.iconst 1, 1) := by decide +kernel
theorem d_MO_put_132 : decode b_MO_put 132 = .ok (.goto 4, 3) := by decide +kernel
theorem d_MO_put_135 : decode b_MO_put 135 = .ok (.iconst 0, 1) := by decide +kernel
theorem d_MO_put_136 : decode b_MO_put 136 = .ok (.bastore, 1) := by decide +kernel
theorem d_MO_put_137 : decode b_MO_put 137 = .ok (.iinc 6 1, 3) := by decide +kernel
theorem d_MO_put_140 : decode b_MO_put 140 = .ok (.goto (-67), 3) := by decide +kernel
theorem d_MO_put_143 : decode b_MO_put 143 = .ok (.aload_n 0, 1) := by decide +kernel
theorem d_MO_put_144 : decode b_MO_put 144 = .ok (.getfield 43, 3) := by decide +kernel
theorem d_MO_put_147 : decode b_MO_put 147 = .ok (.ifCond .le 7, 3) := by decide +kernel
theorem d_MO_put_150 : decode b_MO_put 150 = .ok (.iconst 0, 1) := by decide +kernel
theorem d_MO_put_151 : decode b_MO_put 151 = .ok (.goto 5, 3) := by decide +kernel
theorem d_MO_put_154 : decode b_MO_put 154 = .ok (.iload 5, 2) := by decide +kernel
theorem d_MO_put_156 : decode b_MO_put 156 = .ok (.ireturn, 1) := by decide +kernel
theorem d_MO_column_0 : decode b_MO_column 0 = .ok (.aload_n 0, 1) := by decide +kernel
theorem d_MO_column_1 : decode b_MO_column 1 = .ok (.iconst 0, 1) := by decide +kernel
theorem d_MO_column_2 : decode b_MO_column 2 = .ok (.putfield 43, 3) := by decide +kernel
theorem d_MO_column_5 : decode b_MO_column 5 = .ok (.iload_n 1, 1) := by decide +kernel
theorem d_MO_column_6 : decode b_MO_column 6 = .ok (.iconst 1, 1) := by decide +kernel
theorem d_MO_column_7 : decode b_MO_column 7 = .ok (.if_icmp .lt 16, 3) := by decide +kernel
theorem d_MO_column_10 : decode b_MO_column 10 = .ok (.iload_n 1, 1) := by decide +kernel
theorem d_MO_column_11 : decode b_MO_column 11 = .ok (.bipush 80, 2) := by decide +kernel
theorem d_MO_column_13 : decode b_MO_column 13 = .ok (.if_icmp .gt 10, 3) := by decide +kernel
theorem d_MO_column_16 : decode b_MO_column 16 = .ok (.iload_n 2, 1) := by decide +kernel
theorem d_MO_column_17 : decode b_MO_column 17 = .ok (.invokestatic 50, 3) := by decide +kernel
theorem d_MO_column_20 : decode b_MO_column 20 = .ok (.ifCond .ne 5, 3) := by decide +kernel
theorem d_MO_column_23 : decode b_MO_column 23 = .ok (.iconst 0, 1) := by decide +kernel
theorem d_MO_column_24 : decode b_MO_column 24 = .ok (.ireturn, 1) := by decide +kernel
theorem d_MO_column_25 : decode b_MO_column 25 = .ok (.aload_n 0, 1) := by decide +kernel
theorem d_MO_column_26 : decode b_MO_column 26 = .ok (.getfield 17, 3) := by decide +kernel
theorem d_MO_column_29 : decode b_MO_column 29 = .ok (.iload_n 1, 1) := by decide +kernel
theorem d_MO_column_30 : decode b_MO_column 30 = .ok (.iconst 1, 1) := by decide +kernel
theorem d_MO_column_31 : decode b_MO_column 31 = .ok (.isub, 1) := by decide +kernel
theorem d_MO_column_32 : decode b_MO_column 32 = .ok (.iload_n 2, 1) := by decide +kernel
theorem d_MO_column_33 : decode b_MO_column 33 = .ok (.i2b, 1) := by decide +kernel
theorem d_MO_column_34 : decode b_MO_column 34 = .ok (.bastore, 1) := by decide +kernel
theorem d_MO_column_35 : decode b_MO_column 35 = .ok (.iconst 1, 1) := by decide +kernel
theorem d_MO_column_36 : decode b_MO_column 36 = .ok (.ireturn, 1) := by decide +kernel
theorem d_MO_card_0 : decode b_MO_card 0 = .ok (.aload_n 0, 1) := by decide +kernel
theorem d_MO_card_1 : decode b_MO_card 1 = .ok (.aload_n 0, 1) := by decide +kernel
theorem d_MO_card_2 : decode b_MO_card 2 = .ok (.getfield 59, 3) := by decide +kernel
theorem d_MO_card_5 : decode b_MO_card 5 = .ok (.bipush 20, 2) := by decide +kernel
theorem d_MO_card_7 : decode b_MO_card 7 = .ok (.if_icmp .ne 7, 3) := by decide +kernel
theorem d_MO_card_10 : decode b_MO_card 10 = .ok (.iconst 1, 1) := by decide +kernel
theorem d_MO_card_11 : decode b_MO_card 11 = .ok (.goto 4, 3) := by decide +kernel
theorem d_MO_card_14 : decode b_MO_card 14 = .ok (.iconst 0, 1) := by decide +kernel
theorem d_MO_card_15 : decode b_MO_card 15 = .ok (.putfield 43, 3) := by decide +kernel
theorem d_MO_card_18 : decode b_MO_card 18 = .ok (.aload_n 0, 1) := by decide +kernel
theorem d_MO_card_19 : decode b_MO_card 19 = .ok (.getfield 43, 3) := by decide +kernel
theorem d_MO_card_22 : decode b_MO_card 22 = .ok (.ifCond .le 5, 3) := by decide +kernel
theorem d_MO_card_25 : decode b_MO_card 25 = .ok (.iconst 0, 1) := by decide +kernel
theorem d_MO_card_26 : decode b_MO_card 26 = .ok (.ireturn, 1) := by decide +kernel
theorem d_MO_card_27 : decode b_MO_card 27 = .ok (.iconst 0, 1) := by decide +kernel
theorem d_MO_card_28 : decode b_MO_card 28 = .ok (.istore_n 1, 1) := by decide +kernel
theorem d_MO_card_29 : decode b_MO_card 29 = .ok (.iload_n 1, 1) := by decide +kernel
theorem d_MO_card_30 : decode b_MO_card 30 = .ok (.bipush 80, 2) := by decide +kernel
theorem d_MO_card_32 : decode b_MO_card 32 = .ok (.if_icmp .ge 36, 3) := by decide +kernel
theorem d_MO_card_35 : decode b_MO_card 35 = .ok (.aload_n 0, 1) := by decide +kernel
theorem d_MO_card_36 : decode b_MO_card 36 = .ok (.getfield 20, 3) := by decide +kernel
theorem d_MO_card_39 : decode b_MO_card 39 = .ok (.bipush 80, 2) := by decide +kernel
theorem d_MO_card_41 : decode b_MO_card 41 = .ok (.aload_n 0, 1) := by decide +kernel
theorem d_MO_card_42 : decode b_MO_card 42 = .ok (.getfield 59, 3) := by decide +kernel
theorem d_MO_card_45 : decode b_MO_card 45 = .ok (.imul, 1) := by decide +kernel
theorem d_MO_card_46 : decode b_MO_card 46 = .ok (.iload_n 1, 1) := by decide +kernel
theorem d_MO_card_47 : decode b_MO_card 47 = .ok (.iadd, 1) := by decide +kernel
theorem d_MO_card_48 : decode b_MO_card 48 = .ok (.aload_n 0, 1) := by decide +kernel
theorem d_MO_card_49 : decode b_MO_card 49 = .ok (.getfield 17, 3) := by decide +kernel
theorem d_MO_card_52 : decode b_MO_card 52 = .ok (.iload_n 1, 1) := by decide +kernel
theorem d_MO_card_53 : decode b_MO_card 53 = .ok (.baload, 1) := by decide +kernel
theorem d_MO_card_54 : decode b_MO_card 54 = .ok (.bastore, 1) := by decide +kernel
theorem d_MO_card_55 : decode b_MO_card 55 = .ok (.aload_n 0, 1) := by decide +kernel
theorem d_MO_card_56 : decode b_MO_card 56 = .ok (.getfield 17, 3) := by decide +kernel
theorem d_MO_card_59 : decode b_MO_card 59 = .ok (.iload_n 1, 1) := by decide +kernel
theorem d_MO_card_60 : decode b_MO_card 60 = .ok (.iconst 0, 1) := by decide +kernel
theorem d_MO_card_61 : decode b_MO_card 61 = .ok (.bastore, 1) := by decide +kernel
theorem d_MO_card_62 : decode b_MO_card 62 = .ok (.iinc 1 1, 3) := by decide +kernel
theorem d_MO_card_65 : decode b_MO_card 65 = .ok (.goto (-36), 3) := by decide +kernel
theorem d_MO_card_68 : decode b_MO_card 68 = .ok (.aload_n 0, 1) := by decide +kernel
theorem d_MO_card_69 : decode b_MO_card 69 = .ok (.dup, 1) := by decide +kernel
theorem d_MO_card_70 : decode b_MO_card 70 = .ok (.getfield 59, 3) := by decide +kernel
theorem d_MO_card_73 : decode b_MO_card 73 = .ok (.iconst 1, 1) := by decide +kernel
theorem d_MO_card_74 : decode b_MO_card 74 = .ok (.iadd, 1) := by decide +kernel
theorem d_MO_card_75 : decode b_MO_card 75 = .ok (.putfield 59, 3) := by decide +kernel
theorem d_MO_card_78 : decode b_MO_card 78 = .ok (.aload_n 0, 1) := by decide +kernel
theorem d_MO_card_79 : decode b_MO_card 79 = .ok (.getfield 59, 3) := by decide +kernel
theorem d_MO_card_82 : decode b_MO_card 82 = .ok (.aload_n 0, 1) := by decide +kernel
theorem d_MO_card_83 : decode b_MO_card 83 = .ok (.getfield 62, 3) := by decide +kernel
theorem d_MO_card_86 : decode b_MO_card 86 = .ok (.isub, 1) := by decide +kernel
theorem d_MO_card_87 : decode b_MO_card 87 = .ok (.ireturn, 1) := by decide +kernel
theorem d_MO_start_0 : decode b_MO_start 0 = .ok (.aload_n 0, 1) := by decide +kernel
theorem d_MO_start_1 : decode b_MO_start 1 = .ok (.iconst 0, 1) := by decide +kernel
theorem d_MO_start_2 : decode b_MO_start 2 = .ok (.putfield 43, 3) := by decide +kernel
theorem d_MO_start_5 : decode b_MO_start 5 = .ok (.aload_n 0, 1) := by decide +kernel
theorem d_MO_start_6 : decode b_MO_start 6 = .ok (.iload_n 1, 1) := by decide +kernel
theorem d_MO_start_7 : decode b_MO_start 7 = .ok (.invokevirtual 46, 3) := by decide +kernel
theorem d_MO_start_10 : decode b_MO_start 10 = .ok (.ifCond .ne 5, 3) := by decide +kernel
theorem d_MO_start_13 : decode b_MO_start 13 = .ok (.iconst 0, 1) := by decide +kernel
theorem d_MO_start_14 : decode b_MO_start 14 = .ok (.ireturn, 1) := by decide +kernel
theorem d_MO_start_15 : decode b_MO_start 15 = .ok (.aload_n 0, 1) := by decide +kernel
theorem d_MO_start_16 : decode b_MO_start 16 = .ok (.iload_n 1, 1) := by decide +kernel
theorem d_MO_start_17 : decode b_MO_start 17 = .ok (.putfield 65, 3) := by decide +kernel
theorem d_MO_start_20 : decode b_MO_start 20 = .ok (.iconst 1, 1) := by decide +kernel
theorem d_MO_start_21 : decode b_MO_start 21 = .ok (.ireturn, 1) := by decide +kernel
theorem d_MO_field_0 : decode b_MO_field 0 = .ok (.iconst 0, 1) := by decide +kernel
theorem d_MO_field_1 : decode b_MO_field 1 = .ok (.istore_n 3, 1) := by decide +kernel
theorem d_MO_field_2 : decode b_MO_field 2 = .ok (.iload_n 2, 1) := by decide +kernel
theorem d_MO_field_3 : decode b_MO_field 3 = .ok (.ifCond .le 7, 3) := by decide +kernel
theorem d_MO_field_6 : decode b_MO_field 6 = .ok (.iconst 1, 1) := by decide +kernel
theorem d_MO_field_7 : decode b_MO_field 7 = .ok (.goto 4, 3) := by decide +kernel
theorem d_MO_field_10 : decode b_MO_field 10 = .ok (.iconst 0, 1) := by decide +kernel
theorem d_MO_field_11 : decode b_MO_field 11 = .ok (.istore 4, 2) := by decide +kernel
theorem d_MO_field_13 : decode b_MO_field 13 = .ok (.iload 4, 2) := by decide +kernel
theorem d_MO_field_15 : decode b_MO_field 15 = .ok (.ifCond .eq 46, 3) := by decide +kernel
theorem d_MO_field_18 : decode b_MO_field 18 = .ok (.aload_n 0, 1) := by decide +kernel
theorem d_MO_field_19 : decode b_MO_field 19 = .ok (.iload_n 1, 1) := by decide +kernel
theorem d_MO_field_20 : decode b_MO_field 20 = .ok (.iload_n 3, 1) := by decide +kernel
theorem d_MO_field_21 : decode b_MO_field 21 = .ok (.isub, 1) := by decide +kernel
theorem d_MO_field_22 : decode b_MO_field 22 = .ok (.invokevirtual 46, 3) := by decide +kernel
theorem d_MO_field_25 : decode b_MO_field 25 = .ok (.ifCond .ne 5, 3) := by decide +kernel
theorem d_MO_field_28 : decode b_MO_field 28 = .ok (.iconst 0, 1) := by decide +kernel
theorem d_MO_field_29 : decode b_MO_field 29 = .ok (.ireturn, 1) := by decide +kernel
theorem d_MO_field_30 : decode b_MO_field 30 = .ok (.aload_n 0, 1) := by decide +kernel
theorem d_MO_field_31 : decode b_MO_field 31 = .ok (.getfield 13, 3) := by decide +kernel
theorem d_MO_field_34 : decode b_MO_field 34 = .ok (.iload_n 1, 1) := by decide +kernel
theorem d_MO_field_35 : decode b_MO_field 35 = .ok (.iload_n 3, 1) := by decide +kernel
theorem d_MO_field_36 : decode b_MO_field 36 = .ok (.isub, 1) := by decide +kernel
theorem d_MO_field_37 : decode b_MO_field 37 = .ok (.baload, 1) := by decide +kernel
theorem d_MO_field_38 : decode b_MO_field 38 = .ok (.ifCond .ne 14, 3) := by decide +kernel
theorem d_MO_field_41 : decode b_MO_field 41 = .ok (.iload_n 3, 1) := by decide +kernel
theorem d_MO_field_42 : decode b_MO_field 42 = .ok (.iconst 1, 1) := by decide +kernel
theorem d_MO_field_43 : decode b_MO_field 43 = .ok (.iadd, 1) := by decide +kernel
theorem d_MO_field_44 : decode b_MO_field 44 = .ok (.iload_n 2, 1) := by decide +kernel
theorem d_MO_field_45 : decode b_MO_field 45 = .ok (.if_icmp .ge 7, 3) := by decide +kernel
theorem d_MO_field_48 : decode b_MO_field 48 = .ok (.iconst 1, 1) := by decide +kernel
theorem d_MO_field_49 : decode b_MO_field 49 = .ok (.goto 4, 3) := by decide +kernel
theorem d_MO_field_52 : decode b_MO_field 52 = .ok (.iconst 0, 1) := by decide +kernel
theorem d_MO_field_53 : decode b_MO_field 53 = .ok (.istore 4, 2) := by decide +kernel
theorem d_MO_field_55 : decode b_MO_field 55 = .ok (.iinc 3 1, 3) := by decide +kernel
theorem d_MO_field_58 : decode b_MO_field 58 = .ok (.goto (-45), 3) := by decide +kernel
theorem d_MO_field_61 : decode b_MO_field 61 = .ok (.iload_n 3, 1) := by decide +kernel
theorem d_MO_field_62 : decode b_MO_field 62 = .ok (.ireturn, 1) := by decide +kernel
theorem d_MO_isMinus_0 : decode b_MO_isMinus 0 = .ok (.iload_n 0, 1) := by decide +kernel
theorem d_MO_isMinus_1 : decode b_MO_isMinus 1 = .ok (.invokestatic 68, 3) := by decide +kernel
theorem d_MO_isMinus_4 : decode b_MO_isMinus 4 = .ok (.bipush 32, 2) := by decide +kernel
theorem d_MO_isMinus_6 : decode b_MO_isMinus 6 = .ok (.if_icmp .ne 7, 3) := by decide +kernel
theorem d_MO_isMinus_9 : decode b_MO_isMinus 9 = .ok (.iconst 1, 1) := by decide +kernel
theorem d_MO_isMinus_10 : decode b_MO_isMinus 10 = .ok (.goto 4, 3) := by decide +kernel
theorem d_MO_isMinus_13 : decode b_MO_isMinus 13 = .ok (.iconst 0, 1) := by decide +kernel
theorem d_MO_isMinus_14 : decode b_MO_isMinus 14 = .ok (.ireturn, 1) := by decide +kernel
theorem d_MO_readDigits_0 : decode b_MO_readDigits 0 = .ok (.iconst 0, 1) := by decide +kernel
theorem d_MO_readDigits_1 : decode b_MO_readDigits 1 = .ok (.istore 5, 2) := by decide +kernel
theorem d_MO_readDigits_3 : decode b_MO_readDigits 3 = .ok (.iload 5, 2) := by decide +kernel
theorem d_MO_readDigits_5 : decode b_MO_readDigits 5 = .ok (.iload 4, 2) := by decide +kernel
theorem d_MO_readDigits_7 : decode b_MO_readDigits 7 = .ok (.if_icmp .ge 45, 3) := by decide +kernel
theorem d_MO_readDigits_10 : decode b_MO_readDigits 10 = .ok (.aload_n 1, 1) := by decide +kernel
theorem d_MO_readDigits_11 : decode b_MO_readDigits 11 = .ok (.iload 5, 2) := by decide +kernel
theorem d_MO_readDigits_13 : decode b_MO_readDigits 13 = .ok (.iload 5, 2) := by decide +kernel
theorem d_MO_readDigits_15 : decode b_MO_readDigits 15 = .ok (.iload_n 3, 1) := by decide +kernel
theorem d_MO_readDigits_16 : decode b_MO_readDigits 16 = .ok (.if_icmp .ge 28, 3) := by decide +kernel
theorem d_MO_readDigits_19 : decode b_MO_readDigits 19 = .ok (.aload_n 0, 1) := by decide +kernel
theorem d_MO_readDigits_20 : decode b_MO_readDigits 20 = .ok (.getfield 7, 3) := by decide +kernel
theorem d_MO_readDigits_23 : decode b_MO_readDigits 23 = .ok (.iload 5, 2) := by decide +kernel
theorem d_MO_readDigits_25 : decode b_MO_readDigits 25 = .ok (.iload_n 3, 1) := by decide +kernel
theorem d_MO_readDigits_26 : decode b_MO_readDigits 26 = .ok (.if_icmp .ge 10, 3) := by decide +kernel
theorem d_MO_readDigits_29 : decode b_MO_readDigits 29 = .ok (.iload_n 2, 1) := by decide +kernel
theorem d_MO_readDigits_30 : decode b_MO_readDigits 30 = .ok (.iload 5, 2) := by decide +kernel
theorem d_MO_readDigits_32 : decode b_MO_readDigits 32 = .ok (.isub, 1) := by decide +kernel
theorem d_MO_readDigits_33 : decode b_MO_readDigits 33 = .ok (.goto 4, 3) := by decide +kernel
theorem d_MO_readDigits_36 : decode b_MO_readDigits 36 = .ok (.iload_n 2, 1) := by decide +kernel
theorem d_MO_readDigits_37 : decode b_MO_readDigits 37 = .ok (.baload, 1) := by decide +kernel
theorem d_MO_readDigits_38 : decode b_MO_readDigits 38 = .ok (.invokestatic 72, 3) := by decide +kernel
theorem d_MO_readDigits_41 : decode b_MO_readDigits 41 = .ok (.goto 4, 3) := by decide +kernel
theorem d_MO_readDigits_44 : decode b_MO_readDigits 44 = .ok (.iconst 0, 1) := by decide +kernel
theorem d_MO_readDigits_45 : decode b_MO_readDigits 45 = .ok (.iastore, 1) := by decide +kernel
theorem d_MO_readDigits_46 : decode b_MO_readDigits 46 = .ok (.iinc 5 1, 3) := by decide +kernel
theorem d_MO_readDigits_49 : decode b_MO_readDigits 49 = .ok (.goto (-46), 3) := by decide +kernel
theorem d_MO_readDigits_52 : decode b_MO_readDigits 52 = .ok (.return_, 1) := by decide +kernel
theorem d_MO_writeDigits_0 : decode b_MO_writeDigits 0 = .ok (.iconst 0, 1) := by decide +kernel
theorem d_MO_writeDigits_1 : decode b_MO_writeDigits 1 = .ok (.istore_n 3, 1) := by decide +kernel
theorem d_MO_writeDigits_2 : decode b_MO_writeDigits 2 = .ok (.iload_n 3, 1) := by decide +kernel
theorem d_MO_writeDigits_3 : decode b_MO_writeDigits 3 = .ok (.iload_n 1, 1) := by decide +kernel
theorem d_MO_writeDigits_4 : decode b_MO_writeDigits 4 = .ok (.if_icmp .ge 40, 3) := by decide +kernel
theorem d_MO_writeDigits_7 : decode b_MO_writeDigits 7 = .ok (.aload_n 0, 1) := by decide +kernel
theorem d_MO_writeDigits_8 : decode b_MO_writeDigits 8 = .ok (.getfield 7, 3) := by decide +kernel
theorem d_MO_writeDigits_11 : decode b_MO_writeDigits 11 = .ok (.aload_n 0, 1) := by decide +kernel
theorem d_MO_writeDigits_12 : decode b_MO_writeDigits 12 = .ok (.getfield 75, 3) := by decide +kernel
theorem d_MO_writeDigits_15 : decode b_MO_writeDigits 15 = .ok (.iload_n 3, 1) := by decide +kernel
theorem d_MO_writeDigits_16 : decode b_MO_writeDigits 16 = .ok (.isub, 1) := by decide +kernel
theorem d_MO_writeDigits_17 : decode b_MO_writeDigits 17 = .ok (.aload_n 0, 1) := by decide +kernel
theorem d_MO_writeDigits_18 : decode b_MO_writeDigits 18 = .ok (.getfield 33, 3) := by decide +kernel
theorem d_MO_writeDigits_21 : decode b_MO_writeDigits 21 = .ok (.iload_n 3, 1) := by decide +kernel
theorem d_MO_writeDigits_22 : decode b_MO_writeDigits 22 = .ok (.iaload, 1) := by decide +kernel
theorem d_MO_writeDigits_23 : decode b_MO_writeDigits 23 = .ok (.invokestatic 78, 3) := by decide +kernel
theorem d_MO_writeDigits_26 : decode b_MO_writeDigits 26 = .ok (.iload_n 3, 1) := by decide +kernel
theorem d_MO_writeDigits_27 : decode b_MO_writeDigits 27 = .ok (.ifCond .ne 7, 3) := by decide +kernel
theorem d_MO_writeDigits_30 : decode b_MO_writeDigits 30 = .ok (.iload_n 2, 1) := by decide +kernel
theorem d_MO_writeDigits_31 : decode b_MO_writeDigits 31 = .ok (.goto 4, 3) := by decide +kernel
theorem d_MO_writeDigits_34 : decode b_MO_writeDigits 34 = .ok (.iconst 0, 1) := by decide +kernel
theorem d_MO_writeDigits_35 : decode b_MO_writeDigits 35 = .ok (.ior, 1) := by decide +kernel
theorem d_MO_writeDigits_36 : decode b_MO_writeDigits 36 = .ok (.i2b, 1) := by decide +kernel
theorem d_MO_writeDigits_37 : decode b_MO_writeDigits 37 = .ok (.bastore, 1) := by decide +kernel
theorem d_MO_writeDigits_38 : decode b_MO_writeDigits 38 = .ok (.iinc 3 1, 3) := by decide +kernel
theorem d_MO_writeDigits_41 : decode b_MO_writeDigits 41 = .ok (.goto (-39), 3) := by decide +kernel
theorem d_MO_writeDigits_44 : decode b_MO_writeDigits 44 = .ok (.return_, 1) := by decide +kernel
theorem d_MO_isMore_0 : decode b_MO_isMore 0 = .ok (.iconst 0, 1) := by decide +kernel
theorem d_MO_isMore_1 : decode b_MO_isMore 1 = .ok (.istore_n 2, 1) := by decide +kernel
theorem d_MO_isMore_2 : decode b_MO_isMore 2 = .ok (.iconst 0, 1) := by decide +kernel
theorem d_MO_isMore_3 : decode b_MO_isMore 3 = .ok (.istore_n 3, 1) := by decide +kernel
theorem d_MO_isMore_4 : decode b_MO_isMore 4 = .ok (.iload_n 3, 1) := by decide +kernel
theorem d_MO_isMore_5 : decode b_MO_isMore 5 = .ok (.iload_n 1, 1) := by decide +kernel
theorem d_MO_isMore_6 : decode b_MO_isMore 6 = .ok (.if_icmp .ge 49, 3) := by decide +kernel
theorem d_MO_isMore_9 : decode b_MO_isMore 9 = .ok (.aload_n 0, 1) := by decide +kernel
theorem d_MO_isMore_10 : decode b_MO_isMore 10 = .ok (.getfield 29, 3) := by decide +kernel
theorem d_MO_isMore_13 : decode b_MO_isMore 13 = .ok (.iload_n 3, 1) := by decide +kernel
theorem d_MO_isMore_14 : decode b_MO_isMore 14 = .ok (.iaload, 1) := by decide +kernel
theorem d_MO_isMore_15 : decode b_MO_isMore 15 = .ok (.aload_n 0, 1) := by decide +kernel
theorem d_MO_isMore_16 : decode b_MO_isMore 16 = .ok (.getfield 33, 3) := by decide +kernel
theorem d_MO_isMore_19 : decode b_MO_isMore 19 = .ok (.iload_n 3, 1) := by decide +kernel
theorem d_MO_isMore_20 : decode b_MO_isMore 20 = .ok (.iaload, 1) := by decide +kernel
theorem d_MO_isMore_21 : decode b_MO_isMore 21 = .ok (.if_icmp .eq 26, 3) := by decide +kernel
theorem d_MO_isMore_24 : decode b_MO_isMore 24 = .ok (.aload_n 0, 1) := by decide +kernel
theorem d_MO_isMore_25 : decode b_MO_isMore 25 = .ok (.getfield 29, 3) := by decide +kernel
theorem d_MO_isMore_28 : decode b_MO_isMore 28 = .ok (.iload_n 3, 1) := by decide +kernel
theorem d_MO_isMore_29 : decode b_MO_isMore 29 = .ok (.iaload, 1) := by decide +kernel
theorem d_MO_isMore_30 : decode b_MO_isMore 30 = .ok (.aload_n 0, 1) := by decide +kernel
theorem d_MO_isMore_31 : decode b_MO_isMore 31 = .ok (.getfield 33, 3) := by decide +kernel
theorem d_MO_isMore_34 : decode b_MO_isMore 34 = .ok (.iload_n 3, 1) := by decide +kernel
theorem d_MO_isMore_35 : decode b_MO_isMore 35 = .ok (.iaload, 1) := by decide +kernel
theorem d_MO_isMore_36 : decode b_MO_isMore 36 = .ok (.if_icmp .le 7, 3) := by decide +kernel
theorem d_MO_isMore_39 : decode b_MO_isMore 39 = .ok (.iconst 1, 1) := by decide +kernel
theorem d_MO_isMore_40 : decode b_MO_isMore 40 = .ok (.goto 8, 3) := by decide +kernel
theorem d_MO_isMore_43 : decode b_MO_isMore 43 = .ok (.iconst 0, 1) := by decide +kernel
theorem d_MO_isMore_44 : decode b_MO_isMore 44 = .ok (.goto 4, 3) := by decide +kernel
theorem d_MO_isMore_47 : decode b_MO_isMore 47 = .ok (.iload_n 2, 1) := by decide +kernel
theorem d_MO_isMore_48 : decode b_MO_isMore 48 = .ok (.istore_n 2, 1) := by decide +kernel
theorem d_MO_isMore_49 : decode b_MO_isMore 49 = .ok (.iinc 3 1, 3) := by decide +kernel
theorem d_MO_isMore_52 : decode b_MO_isMore 52 = .ok (.goto (-48), 3) := by decide +kernel
theorem d_MO_isMore_55 : decode b_MO_isMore 55 = .ok (.iload_n 2, 1) := by decide +kernel
theorem d_MO_isMore_56 : decode b_MO_isMore 56 = .ok (.ireturn, 1) := by decide +kernel
theorem d_MO_add_0 : decode b_MO_add 0 = .ok (.aload_n 0, 1) := by decide +kernel
theorem d_MO_add_1 : decode b_MO_add 1 = .ok (.aload_n 0, 1) := by decide +kernel
theorem d_MO_add_2 : decode b_MO_add 2 = .ok (.getfield 75, 3) := by decide +kernel
theorem d_MO_add_5 : decode b_MO_add 5 = .ok (.sipush 3000, 3) := by decide +kernel
theorem d_MO_add_8 : decode b_MO_add 8 = .ok (.invokevirtual 81, 3) := by decide +kernel
theorem d_MO_add_11 : decode b_MO_add 11 = .ok (.istore_n 1, 1) := by decide +kernel
theorem d_MO_add_12 : decode b_MO_add 12 = .ok (.iload_n 1, 1) := by decide +kernel
theorem d_MO_add_13 : decode b_MO_add 13 = .ok (.ifCond .ne 7, 3) := by decide +kernel
theorem d_MO_add_16 : decode b_MO_add 16 = .ok (.iconst 0, 1) := by decide +kernel
theorem d_MO_add_17 : decode b_MO_add 17 = .ok (.goto 12, 3) := by decide +kernel
theorem d_MO_add_20 : decode b_MO_add 20 = .ok (.aload_n 0, 1) := by decide +kernel
theorem d_MO_add_21 : decode b_MO_add 21 = .ok (.aload_n 0, 1) := by decide +kernel
theorem d_MO_add_22 : decode b_MO_add 22 = .ok (.getfield 85, 3) := by decide +kernel
theorem d_MO_add_25 : decode b_MO_add 25 = .ok (.iload_n 1, 1) := by decide +kernel
theorem d_MO_add_26 : decode b_MO_add 26 = .ok (.invokevirtual 81, 3) := by decide +kernel
theorem d_MO_add_29 : decode b_MO_add 29 = .ok (.istore_n 2, 1) := by decide +kernel
theorem d_MO_add_30 : decode b_MO_add 30 = .ok (.iload_n 2, 1) := by decide +kernel
theorem d_MO_add_31 : decode b_MO_add 31 = .ok (.ifCond .ne 5, 3) := by decide +kernel
theorem d_MO_add_34 : decode b_MO_add 34 = .ok (.iconst 2, 1) := by decide +kernel
theorem d_MO_add_35 : decode b_MO_add 35 = .ok (.ireturn, 1) := by decide +kernel
theorem d_MO_add_36 : decode b_MO_add 36 = .ok (.aload_n 0, 1) := by decide +kernel
theorem d_MO_add_37 : decode b_MO_add 37 = .ok (.getfield 7, 3) := by decide +kernel
theorem d_MO_add_40 : decode b_MO_add 40 = .ok (.aload_n 0, 1) := by decide +kernel
theorem d_MO_add_41 : decode b_MO_add 41 = .ok (.getfield 85, 3) := by decide +kernel
theorem d_MO_add_44 : decode b_MO_add 44 = .ok (.baload, 1) := by decide +kernel
theorem d_MO_add_45 : decode b_MO_add 45 = .ok (.invokestatic 88, 3) := by decide +kernel
theorem d_MO_add_48 : decode b_MO_add 48 = .ok (.aload_n 0, 1) := by decide +kernel
theorem d_MO_add_49 : decode b_MO_add 49 = .ok (.getfield 91, 3) := by decide +kernel
theorem d_MO_add_52 : decode b_MO_add 52 = .ok (.bipush 18, 2) := by decide +kernel
theorem d_MO_add_54 : decode b_MO_add 54 = .ok (.if_icmp .ne 7, 3) := by decide +kernel
theorem d_MO_add_57 : decode b_MO_add 57 = .ok (.iconst 1, 1) := by decide +kernel
theorem d_MO_add_58 : decode b_MO_add 58 = .ok (.goto 4, 3) := by decide +kernel
theorem d_MO_add_61 : decode b_MO_add 61 = .ok (.iconst 0, 1) := by decide +kernel
theorem d_MO_add_62 : decode b_MO_add 62 = .ok (.if_icmp .eq 7, 3) := by decide +kernel
theorem d_MO_add_65 : decode b_MO_add 65 = .ok (.iconst 1, 1) := by decide +kernel
theorem d_MO_add_66 : decode b_MO_add 66 = .ok (.goto 4, 3) := by decide +kernel
theorem d_MO_add_69 : decode b_MO_add 69 = .ok (.iconst 0, 1) := by decide +kernel
theorem d_MO_add_70 : decode b_MO_add 70 = .ok (.istore_n 3, 1) := by decide +kernel
theorem d_MO_add_71 : decode b_MO_add 71 = .ok (.aload_n 0, 1) := by decide +kernel
theorem d_MO_add_72 : decode b_MO_add 72 = .ok (.getfield 7, 3) := by decide +kernel
theorem d_MO_add_75 : decode b_MO_add 75 = .ok (.aload_n 0, 1) := by decide +kernel
theorem d_MO_add_76 : decode b_MO_add 76 = .ok (.getfield 75, 3) := by decide +kernel
theorem d_MO_add_79 : decode b_MO_add 79 = .ok (.baload, 1) := by decide +kernel
theorem d_MO_add_80 : decode b_MO_add 80 = .ok (.invokestatic 88, 3) := by decide +kernel
theorem d_MO_add_83 : decode b_MO_add 83 = .ok (.istore 4, 2) := by decide +kernel
theorem d_MO_add_85 : decode b_MO_add 85 = .ok (.aload_n 0, 1) := by decide +kernel
theorem d_MO_add_86 : decode b_MO_add 86 = .ok (.getfield 7, 3) := by decide +kernel
theorem d_MO_add_89 : decode b_MO_add 89 = .ok (.aload_n 0, 1) := by decide +kernel
theorem d_MO_add_90 : decode b_MO_add 90 = .ok (.getfield 75, 3) := by decide +kernel
theorem d_MO_add_93 : decode b_MO_add 93 = .ok (.baload, 1) := by decide +kernel
theorem d_MO_add_94 : decode b_MO_add 94 = .ok (.invokestatic 68, 3) := by decide +kernel
theorem d_MO_add_97 : decode b_MO_add 97 = .ok (.istore 5, 2) := by decide +kernel
theorem d_MO_add_99 : decode b_MO_add 99 = .ok (.aload_n 0, 1) := by decide +kernel
theorem d_MO_add_100 : decode b_MO_add 100 = .ok (.aload_n 0, 1) := by decide +kernel
theorem d_MO_add_101 : decode b_MO_add 101 = .ok (.getfield 29, 3) := by decide +kernel
theorem d_MO_add_104 : decode b_MO_add 104 = .ok (.aload_n 0, 1) := by decide +kernel
theorem d_MO_add_105 : decode b_MO_add 105 = .ok (.getfield 85, 3) := by decide +kernel
theorem d_MO_add_108 : decode b_MO_add 108 = .ok (.iload_n 2, 1) := by decide +kernel
theorem d_MO_add_109 : decode b_MO_add 109 = .ok (.iload_n 1, 1) := by decide +kernel
theorem d_MO_add_110 : decode b_MO_add 110 = .ok (.invokevirtual 94, 3) := by decide +kernel
theorem d_MO_add_113 : decode b_MO_add 113 = .ok (.aload_n 0, 1) := by decide +kernel
theorem d_MO_add_114 : decode b_MO_add 114 = .ok (.aload_n 0, 1) := by decide +kernel
theorem d_MO_add_115 : decode b_MO_add 115 = .ok (.getfield 33, 3) := by decide +kernel
theorem d_MO_add_118 : decode b_MO_add 118 = .ok (.aload_n 0, 1) := by decide +kernel
theorem d_MO_add_119 : decode b_MO_add 119 = .ok (.getfield 75, 3) := by decide +kernel
theorem d_MO_add_122 : decode b_MO_add 122 = .ok (.iload_n 1, 1) := by decide +kernel
theorem d_MO_add_123 : decode b_MO_add 123 = .ok (.iload_n 1, 1) := by decide +kernel
theorem d_MO_add_124 : decode b_MO_add 124 = .ok (.invokevirtual 94, 3) := by decide +kernel
theorem d_MO_add_127 : decode b_MO_add 127 = .ok (.iload_n 3, 1) := by decide +kernel
theorem d_MO_add_128 : decode b_MO_add 128 = .ok (.iload 4, 2) := by decide +kernel
theorem d_MO_add_130 : decode b_MO_add 130 = .ok (.if_icmp .ne 91, 3) := by decide +kernel
theorem d_MO_add_133 : decode b_MO_add 133 = .ok (.iconst 0, 1) := by decide +kernel
theorem d_MO_add_134 : decode b_MO_add 134 = .ok (.istore 6, 2) := by decide +kernel
theorem d_MO_add_136 : decode b_MO_add 136 = .ok (.iconst 0, 1) := by decide +kernel
theorem d_MO_add_137 : decode b_MO_add 137 = .ok (.istore 7, 2) := by decide +kernel
theorem d_MO_add_139 : decode b_MO_add 139 = .ok (.iload 7, 2) := by decide +kernel
theorem d_MO_add_141 : decode b_MO_add 141 = .ok (.iload_n 1, 1) := by decide +kernel
theorem d_MO_add_142 : decode b_MO_add 142 = .ok (.if_icmp .ge 48, 3) := by decide +kernel
theorem d_MO_add_145 : decode b_MO_add 145 = .ok (.aload_n 0, 1) := by decide +kernel
theorem d_MO_add_146 : decode b_MO_add 146 = .ok (.getfield 29, 3) := by decide +kernel
theorem d_MO_add_149 : decode b_MO_add 149 = .ok (.iload 7, 2) := by decide +kernel
theorem d_MO_add_151 : decode b_MO_add 151 = .ok (.iaload, 1) := by decide +kernel
theorem d_MO_add_152 : decode b_MO_add 152 = .ok (.aload_n 0, 1) := by decide +kernel
theorem d_MO_add_153 : decode b_MO_add 153 = .ok (.getfield 33, 3) := by decide +kernel
theorem d_MO_add_156 : decode b_MO_add 156 = .ok (.iload 7, 2) := by decide +kernel
theorem d_MO_add_158 : decode b_MO_add 158 = .ok (.iaload, 1) := by decide +kernel
theorem d_MO_add_159 : decode b_MO_add 159 = .ok (.iadd, 1) := by decide +kernel
theorem d_MO_add_160 : decode b_MO_add 160 = .ok (.iload 6, 2) := by decide +kernel
theorem d_MO_add_162 : decode b_MO_add 162 = .ok (.iadd, 1) := by decide +kernel
theorem d_MO_add_163 : decode b_MO_add 163 = .ok (.istore 8, 2) := by decide +kernel
theorem d_MO_add_165 : decode b_MO_add 165 = .ok (.aload_n 0, 1) := by decide +kernel
theorem d_MO_add_166 : decode b_MO_add 166 = .ok (.getfield 33, 3) := by decide +kernel
theorem d_MO_add_169 : decode b_MO_add 169 = .ok (.iload 7, 2) := by decide +kernel
theorem d_MO_add_171 : decode b_MO_add 171 = .ok (.iload 8, 2) := by decide +kernel
theorem d_MO_add_173 : decode b_MO_add 173 = .ok (.bipush 10, 2) := by decide +kernel
theorem d_MO_add_175 : decode b_MO_add 175 = .ok (.irem, 1) := by decide +kernel
theorem d_MO_add_176 : decode b_MO_add 176 = .ok (.iastore, 1) := by decide +kernel
theorem d_MO_add_177 : decode b_MO_add 177 = .ok (.iload 8, 2) := by decide +kernel
theorem d_MO_add_179 : decode b_MO_add 179 = .ok (.bipush 10, 2) := by decide +kernel
theorem d_MO_add_181 : decode b_MO_add 181 = .ok (.idiv, 1) := by decide +kernel
theorem d_MO_add_182 : decode b_MO_add 182 = .ok (.istore 6, 2) := by decide +kernel
theorem d_MO_add_184 : decode b_MO_add 184 = .ok (.iinc 7 1, 3) := by decide +kernel
theorem d_MO_add_187 : decode b_MO_add 187 = .ok (.goto (-48), 3) := by decide +kernel
theorem d_MO_add_190 : decode b_MO_add 190 = .ok (.aload_n 0, 1) := by decide +kernel
theorem d_MO_add_191 : decode b_MO_add 191 = .ok (.aload_n 0, 1) := by decide +kernel
theorem d_MO_add_192 : decode b_MO_add 192 = .ok (.getfield 98, 3) := by decide +kernel
theorem d_MO_add_195 : decode b_MO_add 195 = .ok (.ifCond .ne 8, 3) := by decide +kernel
theorem d_MO_add_198 : decode b_MO_add 198 = .ok (.iload 6, 2) := by decide +kernel
theorem d_MO_add_200 : decode b_MO_add 200 = .ok (.ifCond .le 7, 3) := by decide +kernel
theorem d_MO_add_203 : decode b_MO_add 203 = .ok (.iconst 1, 1) := by decide +kernel
theorem d_MO_add_204 : decode b_MO_add 204 = .ok (.goto 4, 3) := by decide +kernel
theorem d_MO_add_207 : decode b_MO_add 207 = .ok (.iconst 0, 1) := by decide +kernel
theorem d_MO_add_208 : decode b_MO_add 208 = .ok (.putfield 98, 3) := by decide +kernel
theorem d_MO_add_211 : decode b_MO_add 211 = .ok (.aload_n 0, 1) := by decide +kernel
theorem d_MO_add_212 : decode b_MO_add 212 = .ok (.iload_n 1, 1) := by decide +kernel
theorem d_MO_add_213 : decode b_MO_add 213 = .ok (.iload 5, 2) := by decide +kernel
theorem d_MO_add_215 : decode b_MO_add 215 = .ok (.invokevirtual 102, 3) := by decide +kernel
theorem d_MO_add_218 : decode b_MO_add 218 = .ok (.goto 137, 3) := by decide +kernel
theorem d_MO_add_221 : decode b_MO_add 221 = .ok (.aload_n 0, 1) := by decide +kernel
theorem d_MO_add_222 : decode b_MO_add 222 = .ok (.iload_n 1, 1) := by decide +kernel
theorem d_MO_add_223 : decode b_MO_add 223 = .ok (.invokevirtual 106, 3) := by decide +kernel
theorem d_MO_add_226 : decode b_MO_add 226 = .ok (.istore 6, 2) := by decide +kernel
theorem d_MO_add_228 : decode b_MO_add 228 = .ok (.iconst 0, 1) := by decide +kernel
theorem d_MO_add_229 : decode b_MO_add 229 = .ok (.istore 7, 2) := by decide +kernel
theorem d_MO_add_231 : decode b_MO_add 231 = .ok (.iconst 0, 1) := by decide +kernel
theorem d_MO_add_232 : decode b_MO_add 232 = .ok (.istore 8, 2) := by decide +kernel
theorem d_MO_add_234 : decode b_MO_add 234 = .ok (.iload 8, 2) := by decide +kernel
theorem d_MO_add_236 : decode b_MO_add 236 = .ok (.iload_n 1, 1) := by decide +kernel
theorem d_MO_add_237 : decode b_MO_add 237 = .ok (.if_icmp .ge 89, 3) := by decide +kernel
theorem d_MO_add_240 : decode b_MO_add 240 = .ok (.iload 6, 2) := by decide +kernel
theorem d_MO_add_242 : decode b_MO_add 242 = .ok (.ifCond .eq 24, 3) := by decide +kernel
theorem d_MO_add_245 : decode b_MO_add 245 = .ok (.aload_n 0, 1) := by decide +kernel
theorem d_MO_add_246 : decode b_MO_add 246 = .ok (.getfield 29, 3) := by decide +kernel
theorem d_MO_add_249 : decode b_MO_add 249 = .ok (.iload 8, 2) := by decide +kernel
theorem d_MO_add_251 : decode b_MO_add 251 = .ok (.iaload, 1) := by decide +kernel
theorem d_MO_add_252 : decode b_MO_add 252 = .ok (.aload_n 0, 1) := by decide +kernel
theorem d_MO_add_253 : decode b_MO_add 253 = .ok (.getfield 33, 3) := by decide +kernel
theorem d_MO_add_256 : decode b_MO_add 256 = .ok (.iload 8, 2) := by decide +kernel
theorem d_MO_add_258 : decode b_MO_add 258 = .ok (.iaload, 1) := by decide +kernel
theorem d_MO_add_259 : decode b_MO_add 259 = .ok (.isub, 1) := by decide +kernel
theorem d_MO_add_260 : decode b_MO_add 260 = .ok (.iload 7, 2) := by decide +kernel
theorem d_MO_add_262 : decode b_MO_add 262 = .ok (.isub, 1) := by decide +kernel
theorem d_MO_add_263 : decode b_MO_add 263 = .ok (.goto 21, 3) := by decide +kernel
theorem d_MO_add_266 : decode b_MO_add 266 = .ok (.aload_n 0, 1) := by decide +kernel
theorem d_MO_add_267 : decode b_MO_add 267 = .ok (.getfield 33, 3) := by decide +kernel
theorem d_MO_add_270 : decode b_MO_add 270 = .ok (.iload 8, 2) := by decide +kernel
theorem d_MO_add_272 : decode b_MO_add 272 = .ok (.iaload, 1) := by decide +kernel
theorem d_MO_add_273 : decode b_MO_add 273 = .ok (.aload_n 0, 1) := by decide +kernel
theorem d_MO_add_274 : decode b_MO_add 274 = .ok (.getfield 29, 3) := by decide +kernel
theorem d_MO_add_277 : decode b_MO_add 277 = .ok (.iload 8, 2) := by decide +kernel
theorem d_MO_add_279 : decode b_MO_add 279 = .ok (.iaload, 1) := by decide +kernel
theorem d_MO_add_280 : decode b_MO_add 280 = .ok (.isub, 1) := by decide +kernel
theorem d_MO_add_281 : decode b_MO_add 281 = .ok (.iload 7, 2) := by decide +kernel
theorem d_MO_add_283 : decode b_MO_add 283 = .ok (.isub, 1) := by decide +kernel
theorem d_MO_add_284 : decode b_MO_add 284 = .ok (.istore 9, 2) := by decide +kernel
theorem d_MO_add_286 : decode b_MO_add 286 = .ok (.iload 9, 2) := by decide +kernel
theorem d_MO_add_288 : decode b_MO_add 288 = .ok (.ifCond .ge 7, 3) := by decide +kernel
theorem d_MO_add_291 : decode b_MO_add 291 = .ok (.iconst 1, 1) := by decide +kernel
theorem d_MO_add_292 : decode b_MO_add 292 = .ok (.goto 4, 3) := by decide +kernel
theorem d_MO_add_295 : decode b_MO_add 295 = .ok (.iconst 0, 1) := by decide +kernel
theorem d_MO_add_296 : decode b_MO_add 296 = .ok (.istore 7, 2) := by decide +kernel
theorem d_MO_add_298 : decode b_MO_add 298 = .ok (.aload_n 0, 1) := by decide +kernel
theorem d_MO_add_299 : decode b_MO_add 299 = .ok (.getfield 33, 3) := by decide +kernel
theorem d_MO_add_302 : decode b_MO_add 302 = .ok (.iload 8, 2) := by decide +kernel
theorem d_MO_add_304 : decode b_MO_add 304 = .ok (.iload 9, 2) := by decide +kernel
theorem d_MO_add_306 : decode b_MO_add 306 = .ok (.ifCond .ge 11, 3) := by decide +kernel
theorem d_MO_add_309 : decode b_MO_add 309 = .ok (.iload 9, 2) := by decide +kernel
theorem d_MO_add_311 : decode b_MO_add 311 = .ok (.bipush 10, 2) := by decide +kernel
theorem d_MO_add_313 : decode b_MO_add 313 = .ok (.iadd, 1) := by decide +kernel
theorem d_MO_add_314 : decode b_MO_add 314 = .ok (.goto 5, 3) := by decide +kernel
theorem d_MO_add_317 : decode b_MO_add 317 = .ok (.iload 9, 2) := by decide +kernel
theorem d_MO_add_319 : decode b_MO_add 319 = .ok (.iastore, 1) := by decide +kernel
theorem d_MO_add_320 : decode b_MO_add 320 = .ok (.iinc 8 1, 3) := by decide +kernel
theorem d_MO_add_323 : decode b_MO_add 323 = .ok (.goto (-89), 3) := by decide +kernel
theorem d_MO_add_326 : decode b_MO_add 326 = .ok (.aload_n 0, 1) := by decide +kernel
theorem d_MO_add_327 : decode b_MO_add 327 = .ok (.iload_n 1, 1) := by decide +kernel
theorem d_MO_add_328 : decode b_MO_add 328 = .ok (.iload 6, 2) := by decide +kernel
theorem d_MO_add_330 : decode b_MO_add 330 = .ok (.ifCond .eq 10, 3) := by decide +kernel
theorem d_MO_add_333 : decode b_MO_add 333 = .ok (.iload_n 3, 1) := by decide +kernel
theorem d_MO_add_334 : decode b_MO_add 334 = .ok (.ifCond .eq 16, 3) := by decide +kernel
theorem d_MO_add_337 : decode b_MO_add 337 = .ok (.goto 8, 3) := by decide +kernel
theorem d_MO_add_340 : decode b_MO_add 340 = .ok (.iload 4, 2) := by decide +kernel
theorem d_MO_add_342 : decode b_MO_add 342 = .ok (.ifCond .eq 8, 3) := by decide +kernel
theorem d_MO_add_345 : decode b_MO_add 345 = .ok (.bipush 32, 2) := by decide +kernel
theorem d_MO_add_347 : decode b_MO_add 347 = .ok (.goto 5, 3) := by decide +kernel
theorem d_MO_add_350 : decode b_MO_add 350 = .ok (.bipush 48, 2) := by decide +kernel
theorem d_MO_add_352 : decode b_MO_add 352 = .ok (.invokevirtual 102, 3) := by decide +kernel
theorem d_MO_add_355 : decode b_MO_add 355 = .ok (.aload_n 0, 1) := by decide +kernel
theorem d_MO_add_356 : decode b_MO_add 356 = .ok (.dup, 1) := by decide +kernel
theorem d_MO_add_357 : decode b_MO_add 357 = .ok (.getfield 85, 3) := by decide +kernel
theorem d_MO_add_360 : decode b_MO_add 360 = .ok (.iload_n 2, 1) := by decide +kernel
theorem d_MO_add_361 : decode b_MO_add 361 = .ok (.isub, 1) := by decide +kernel
theorem d_MO_add_362 : decode b_MO_add 362 = .ok (.putfield 85, 3) := by decide +kernel
theorem d_MO_add_365 : decode b_MO_add 365 = .ok (.aload_n 0, 1) := by decide +kernel
theorem d_MO_add_366 : decode b_MO_add 366 = .ok (.dup, 1) := by decide +kernel
theorem d_MO_add_367 : decode b_MO_add 367 = .ok (.getfield 75, 3) := by decide +kernel
theorem d_MO_add_370 : decode b_MO_add 370 = .ok (.iload_n 1, 1) := by decide +kernel
theorem d_MO_add_371 : decode b_MO_add 371 = .ok (.isub, 1) := by decide +kernel
theorem d_MO_add_372 : decode b_MO_add 372 = .ok (.putfield 75, 3) := by decide +kernel
theorem d_MO_add_375 : decode b_MO_add 375 = .ok (.iconst 0, 1) := by decide +kernel
theorem d_MO_add_376 : decode b_MO_add 376 = .ok (.ireturn, 1) := by decide +kernel
theorem d_MO_reset_0 : decode b_MO_reset 0 = .ok (.aload_n 0, 1) := by decide +kernel
theorem d_MO_reset_1 : decode b_MO_reset 1 = .ok (.aload_n 0, 1) := by decide +kernel
theorem d_MO_reset_2 : decode b_MO_reset 2 = .ok (.getfield 75, 3) := by decide +kernel
theorem d_MO_reset_5 : decode b_MO_reset 5 = .ok (.sipush 3000, 3) := by decide +kernel
theorem d_MO_reset_8 : decode b_MO_reset 8 = .ok (.invokevirtual 81, 3) := by decide +kernel
theorem d_MO_reset_11 : decode b_MO_reset 11 = .ok (.istore_n 1, 1) := by decide +kernel
theorem d_MO_reset_12 : decode b_MO_reset 12 = .ok (.iload_n 1, 1) := by decide +kernel
theorem d_MO_reset_13 : decode b_MO_reset 13 = .ok (.ifCond .ne 7, 3) := by decide +kernel
theorem d_MO_reset_16 : decode b_MO_reset 16 = .ok (.iconst 0, 1) := by decide +kernel
theorem d_MO_reset_17 : decode b_MO_reset 17 = .ok (.goto 12, 3) := by decide +kernel
theorem d_MO_reset_20 : decode b_MO_reset 20 = .ok (.aload_n 0, 1) := by decide +kernel
theorem d_MO_reset_21 : decode b_MO_reset 21 = .ok (.aload_n 0, 1) := by decide +kernel
theorem d_MO_reset_22 : decode b_MO_reset 22 = .ok (.getfield 85, 3) := by decide +kernel
theorem d_MO_reset_25 : decode b_MO_reset 25 = .ok (.iload_n 1, 1) := by decide +kernel
theorem d_MO_reset_26 : decode b_MO_reset 26 = .ok (.invokevirtual 81, 3) := by decide +kernel
theorem d_MO_reset_29 : decode b_MO_reset 29 = .ok (.istore_n 2, 1) := by decide +kernel
theorem d_MO_reset_30 : decode b_MO_reset 30 = .ok (.iload_n 2, 1) := by decide +kernel
theorem d_MO_reset_31 : decode b_MO_reset 31 = .ok (.ifCond .ne 5, 3) := by decide +kernel
theorem d_MO_reset_34 : decode b_MO_reset 34 = .ok (.iconst 2, 1) := by decide +kernel
theorem d_MO_reset_35 : decode b_MO_reset 35 = .ok (.ireturn, 1) := by decide +kernel
theorem d_MO_reset_36 : decode b_MO_reset 36 = .ok (.aload_n 0, 1) := by decide +kernel
theorem d_MO_reset_37 : decode b_MO_reset 37 = .ok (.getfield 7, 3) := by decide +kernel
theorem d_MO_reset_40 : decode b_MO_reset 40 = .ok (.aload_n 0, 1) := by decide +kernel
theorem d_MO_reset_41 : decode b_MO_reset 41 = .ok (.getfield 85, 3) := by decide +kernel
theorem d_MO_reset_44 : decode b_MO_reset 44 = .ok (.baload, 1) := by decide +kernel
theorem d_MO_reset_45 : decode b_MO_reset 45 = .ok (.invokestatic 88, 3) := by decide +kernel
theorem d_MO_reset_48 : decode b_MO_reset 48 = .ok (.aload_n 0, 1) := by decide +kernel
theorem d_MO_reset_49 : decode b_MO_reset 49 = .ok (.getfield 91, 3) := by decide +kernel
theorem d_MO_reset_52 : decode b_MO_reset 52 = .ok (.bipush 42, 2) := by decide +kernel
theorem d_MO_reset_54 : decode b_MO_reset 54 = .ok (.if_icmp .ne 7, 3) := by decide +kernel
theorem d_MO_reset_57 : decode b_MO_reset 57 = .ok (.iconst 1, 1) := by decide +kernel
theorem d_MO_reset_58 : decode b_MO_reset 58 = .ok (.goto 4, 3) := by decide +kernel
theorem d_MO_reset_61 : decode b_MO_reset 61 = .ok (.iconst 0, 1) := by decide +kernel
theorem d_MO_reset_62 : decode b_MO_reset 62 = .ok (.if_icmp .eq 7, 3) := by decide +kernel
theorem d_MO_reset_65 : decode b_MO_reset 65 = .ok (.iconst 1, 1) := by decide +kernel
theorem d_MO_reset_66 : decode b_MO_reset 66 = .ok (.goto 4, 3) := by decide +kernel
theorem d_MO_reset_69 : decode b_MO_reset 69 = .ok (.iconst 0, 1) := by decide +kernel
theorem d_MO_reset_70 : decode b_MO_reset 70 = .ok (.istore_n 3, 1) := by decide +kernel
theorem d_MO_reset_71 : decode b_MO_reset 71 = .ok (.aload_n 0, 1) := by decide +kernel
theorem d_MO_reset_72 : decode b_MO_reset 72 = .ok (.aload_n 0, 1) := by decide +kernel
theorem d_MO_reset_73 : decode b_MO_reset 73 = .ok (.getfield 33, 3) := by decide +kernel
theorem d_MO_reset_76 : decode b_MO_reset 76 = .ok (.aload_n 0, 1) := by decide +kernel
theorem d_MO_reset_77 : decode b_MO_reset 77 = .ok (.getfield 85, 3) := by decide +kernel
theorem d_MO_reset_80 : decode b_MO_reset 80 = .ok (.iload_n 2, 1) := by decide +kernel
theorem d_MO_reset_81 : decode b_MO_reset 81 = .ok (.iload_n 1, 1) := by decide +kernel
theorem d_MO_reset_82 : decode b_MO_reset 82 = .ok (.invokevirtual 94, 3) := by decide +kernel
theorem d_MO_reset_85 : decode b_MO_reset 85 = .ok (.aload_n 0, 1) := by decide +kernel
theorem d_MO_reset_86 : decode b_MO_reset 86 = .ok (.iload_n 1, 1) := by decide +kernel
theorem d_MO_reset_87 : decode b_MO_reset 87 = .ok (.iload_n 3, 1) := by decide +kernel
theorem d_MO_reset_88 : decode b_MO_reset 88 = .ok (.ifCond .eq 8, 3) := by decide +kernel
theorem d_MO_reset_91 : decode b_MO_reset 91 = .ok (.bipush 32, 2) := by decide +kernel
theorem d_MO_reset_93 : decode b_MO_reset 93 = .ok (.goto 5, 3) := by decide +kernel
theorem d_MO_reset_96 : decode b_MO_reset 96 = .ok (.bipush 48, 2) := by decide +kernel
theorem d_MO_reset_98 : decode b_MO_reset 98 = .ok (.invokevirtual 102, 3) := by decide +kernel
theorem d_MO_reset_101 : decode b_MO_reset 101 = .ok (.aload_n 0, 1) := by decide +kernel
theorem d_MO_reset_102 : decode b_MO_reset 102 = .ok (.dup, 1) := by decide +kernel
theorem d_MO_reset_103 : decode b_MO_reset 103 = .ok (.getfield 85, 3) := by decide +kernel
theorem d_MO_reset_106 : decode b_MO_reset 106 = .ok (.iload_n 2, 1) := by decide +kernel
theorem d_MO_reset_107 : decode b_MO_reset 107 = .ok (.isub, 1) := by decide +kernel
theorem d_MO_reset_108 : decode b_MO_reset 108 = .ok (.putfield 85, 3) := by decide +kernel
theorem d_MO_reset_111 : decode b_MO_reset 111 = .ok (.aload_n 0, 1) := by decide +kernel
theorem d_MO_reset_112 : decode b_MO_reset 112 = .ok (.dup, 1) := by decide +kernel
theorem d_MO_reset_113 : decode b_MO_reset 113 = .ok (.getfield 75, 3) := by decide +kernel
theorem d_MO_reset_116 : decode b_MO_reset 116 = .ok (.iload_n 1, 1) := by decide +kernel
theorem d_MO_reset_117 : decode b_MO_reset 117 = .ok (.isub, 1) := by decide +kernel
theorem d_MO_reset_118 : decode b_MO_reset 118 = .ok (.putfield 75, 3) := by decide +kernel
theorem d_MO_reset_121 : decode b_MO_reset 121 = .ok (.iconst 0, 1) := by decide +kernel
theorem d_MO_reset_122 : decode b_MO_reset 122 = .ok (.ireturn, 1) := by decide +kernel
theorem d_MO_both_0 : decode b_MO_both 0 = .ok (.iconst 0, 1) := by decide +kernel
theorem d_MO_both_1 : decode b_MO_both 1 = .ok (.istore_n 1, 1) := by decide +kernel
theorem d_MO_both_2 : decode b_MO_both 2 = .ok (.iconst 1, 1) := by decide +kernel
theorem d_MO_both_3 : decode b_MO_both 3 = .ok (.istore_n 2, 1) := by decide +kernel
theorem d_MO_both_4 : decode b_MO_both 4 = .ok (.iload_n 2, 1) := by decide +kernel
theorem d_MO_both_5 : decode b_MO_both 5 = .ok (.ifCond .eq 71, 3) := by decide +kernel
theorem d_MO_both_8 : decode b_MO_both 8 = .ok (.aload_n 0, 1) := by decide +kernel
theorem d_MO_both_9 : decode b_MO_both 9 = .ok (.aload_n 0, 1) := by decide +kernel
theorem d_MO_both_10 : decode b_MO_both 10 = .ok (.getfield 85, 3) := by decide +kernel
theorem d_MO_both_13 : decode b_MO_both 13 = .ok (.iload_n 1, 1) := by decide +kernel
theorem d_MO_both_14 : decode b_MO_both 14 = .ok (.isub, 1) := by decide +kernel
theorem d_MO_both_15 : decode b_MO_both 15 = .ok (.invokevirtual 46, 3) := by decide +kernel
theorem d_MO_both_18 : decode b_MO_both 18 = .ok (.ifCond .eq 16, 3) := by decide +kernel
theorem d_MO_both_21 : decode b_MO_both 21 = .ok (.aload_n 0, 1) := by decide +kernel
theorem d_MO_both_22 : decode b_MO_both 22 = .ok (.aload_n 0, 1) := by decide +kernel
theorem d_MO_both_23 : decode b_MO_both 23 = .ok (.getfield 75, 3) := by decide +kernel
theorem d_MO_both_26 : decode b_MO_both 26 = .ok (.iload_n 1, 1) := by decide +kernel
theorem d_MO_both_27 : decode b_MO_both 27 = .ok (.isub, 1) := by decide +kernel
theorem d_MO_both_28 : decode b_MO_both 28 = .ok (.invokevirtual 46, 3) := by decide +kernel
theorem d_MO_both_31 : decode b_MO_both 31 = .ok (.ifCond .ne 5, 3) := by decide +kernel
theorem d_MO_both_34 : decode b_MO_both 34 = .ok (.iconst 0, 1) := by decide +kernel
theorem d_MO_both_35 : decode b_MO_both 35 = .ok (.ireturn, 1) := by decide +kernel
theorem d_MO_both_36 : decode b_MO_both 36 = .ok (.aload_n 0, 1) := by decide +kernel
theorem d_MO_both_37 : decode b_MO_both 37 = .ok (.getfield 13, 3) := by decide +kernel
theorem d_MO_both_40 : decode b_MO_both 40 = .ok (.aload_n 0, 1) := by decide +kernel
theorem d_MO_both_41 : decode b_MO_both 41 = .ok (.getfield 85, 3) := by decide +kernel
theorem d_MO_both_44 : decode b_MO_both 44 = .ok (.iload_n 1, 1) := by decide +kernel
theorem d_MO_both_45 : decode b_MO_both 45 = .ok (.isub, 1) := by decide +kernel
theorem d_MO_both_46 : decode b_MO_both 46 = .ok (.baload, 1) := by decide +kernel
theorem d_MO_both_47 : decode b_MO_both 47 = .ok (.ifCond .ne 21, 3) := by decide +kernel
theorem d_MO_both_50 : decode b_MO_both 50 = .ok (.aload_n 0, 1) := by decide +kernel
theorem d_MO_both_51 : decode b_MO_both 51 = .ok (.getfield 13, 3) := by decide +kernel
theorem d_MO_both_54 : decode b_MO_both 54 = .ok (.aload_n 0, 1) := by decide +kernel
theorem d_MO_both_55 : decode b_MO_both 55 = .ok (.getfield 75, 3) := by decide +kernel
theorem d_MO_both_58 : decode b_MO_both 58 = .ok (.iload_n 1, 1) := by decide +kernel
theorem d_MO_both_59 : decode b_MO_both 59 = .ok (.isub, 1) := by decide +kernel
theorem d_MO_both_60 : decode b_MO_both 60 = .ok (.baload, 1) := by decide +kernel
theorem d_MO_both_61 : decode b_MO_both 61 = .ok (.ifCond .ne 7, 3) := by decide +kernel
theorem d_MO_both_64 : decode b_MO_both 64 = .ok (.iconst 1, 1) := by decide +kernel
theorem d_MO_both_65 : decode b_MO_both 65 = .ok (.goto 4, 3) := by decide +kernel
theorem d_MO_both_68 : decode b_MO_both 68 = .ok (.iconst 0, 1) := by decide +kernel
theorem d_MO_both_69 : decode b_MO_both 69 = .ok (.istore_n 2, 1) := by decide +kernel
theorem d_MO_both_70 : decode b_MO_both 70 = .ok (.iinc 1 1, 3) := by decide +kernel
theorem d_MO_both_73 : decode b_MO_both 73 = .ok (.goto (-69), 3) := by decide +kernel
theorem d_MO_both_76 : decode b_MO_both 76 = .ok (.iload_n 1, 1) := by decide +kernel
theorem d_MO_both_77 : decode b_MO_both 77 = .ok (.ireturn, 1) := by decide +kernel
theorem d_MO_move_0 : decode b_MO_move 0 = .ok (.aload_n 0, 1) := by decide +kernel
theorem d_MO_move_1 : decode b_MO_move 1 = .ok (.invokevirtual 109, 3) := by decide +kernel
theorem d_MO_move_4 : decode b_MO_move 4 = .ok (.istore_n 1, 1) := by decide +kernel
theorem d_MO_move_5 : decode b_MO_move 5 = .ok (.iload_n 1, 1) := by decide +kernel
theorem d_MO_move_6 : decode b_MO_move 6 = .ok (.ifCond .ne 5, 3) := by decide +kernel
theorem d_MO_move_9 : decode b_MO_move 9 = .ok (.iconst 2, 1) := by decide +kernel
theorem d_MO_move_10 : decode b_MO_move 10 = .ok (.ireturn, 1) := by decide +kernel
theorem d_MO_move_11 : decode b_MO_move 11 = .ok (.iconst 0, 1) := by decide +kernel
theorem d_MO_move_12 : decode b_MO_move 12 = .ok (.istore_n 2, 1) := by decide +kernel
theorem d_MO_move_13 : decode b_MO_move 13 = .ok (.iload_n 2, 1) := by decide +kernel
theorem d_MO_move_14 : decode b_MO_move 14 = .ok (.iload_n 1, 1) := by decide +kernel
theorem d_MO_move_15 : decode b_MO_move 15 = .ok (.if_icmp .ge 31, 3) := by decide +kernel
theorem d_MO_move_18 : decode b_MO_move 18 = .ok (.aload_n 0, 1) := by decide +kernel
theorem d_MO_move_19 : decode b_MO_move 19 = .ok (.getfield 7, 3) := by decide +kernel
theorem d_MO_move_22 : decode b_MO_move 22 = .ok (.aload_n 0, 1) := by decide +kernel
theorem d_MO_move_23 : decode b_MO_move 23 = .ok (.getfield 75, 3) := by decide +kernel
theorem d_MO_move_26 : decode b_MO_move 26 = .ok (.iload_n 2, 1) := by decide +kernel
theorem d_MO_move_27 : decode b_MO_move 27 = .ok (.isub, 1) := by decide +kernel
theorem d_MO_move_28 : decode b_MO_move 28 = .ok (.aload_n 0, 1) := by decide +kernel
theorem d_MO_move_29 : decode b_MO_move 29 = .ok (.getfield 7, 3) := by decide +kernel
theorem d_MO_move_32 : decode b_MO_move 32 = .ok (.aload_n 0, 1) := by decide +kernel
theorem d_MO_move_33 : decode b_MO_move 33 = .ok (.getfield 85, 3) := by decide +kernel
theorem d_MO_move_36 : decode b_MO_move 36 = .ok (.iload_n 2, 1) := by decide +kernel
theorem d_MO_move_37 : decode b_MO_move 37 = .ok (.isub, 1) := by decide +kernel
theorem d_MO_move_38 : decode b_MO_move 38 = .ok (.baload, 1) := by decide +kernel
theorem d_MO_move_39 : decode b_MO_move 39 = .ok (.bastore, 1) := by decide +kernel
theorem d_MO_move_40 : decode b_MO_move 40 = .ok (.iinc 2 1, 3) := by decide +kernel
theorem d_MO_move_43 : decode b_MO_move 43 = .ok (.goto (-30), 3) := by decide +kernel
theorem d_MO_move_46 : decode b_MO_move 46 = .ok (.aload_n 0, 1) := by decide +kernel
theorem d_MO_move_47 : decode b_MO_move 47 = .ok (.dup, 1) := by decide +kernel
theorem d_MO_move_48 : decode b_MO_move 48 = .ok (.getfield 85, 3) := by decide +kernel
theorem d_MO_move_51 : decode b_MO_move 51 = .ok (.iload_n 1, 1) := by decide +kernel
theorem d_MO_move_52 : decode b_MO_move 52 = .ok (.isub, 1) := by decide +kernel
theorem d_MO_move_53 : decode b_MO_move 53 = .ok (.putfield 85, 3) := by decide +kernel
theorem d_MO_move_56 : decode b_MO_move 56 = .ok (.aload_n 0, 1) := by decide +kernel
theorem d_MO_move_57 : decode b_MO_move 57 = .ok (.dup, 1) := by decide +kernel
theorem d_MO_move_58 : decode b_MO_move 58 = .ok (.getfield 75, 3) := by decide +kernel
theorem d_MO_move_61 : decode b_MO_move 61 = .ok (.iload_n 1, 1) := by decide +kernel
theorem d_MO_move_62 : decode b_MO_move 62 = .ok (.isub, 1) := by decide +kernel
theorem d_MO_move_63 : decode b_MO_move 63 = .ok (.putfield 75, 3) := by decide +kernel
theorem d_MO_move_66 : decode b_MO_move 66 = .ok (.iconst 0, 1) := by decide +kernel
theorem d_MO_move_67 : decode b_MO_move 67 = .ok (.ireturn, 1) := by decide +kernel
theorem d_MO_load_0 : decode b_MO_load 0 = .ok (.aload_n 0, 1) := by decide +kernel
theorem d_MO_load_1 : decode b_MO_load 1 = .ok (.aload_n 0, 1) := by decide +kernel
theorem d_MO_load_2 : decode b_MO_load 2 = .ok (.getfield 85, 3) := by decide +kernel
theorem d_MO_load_5 : decode b_MO_load 5 = .ok (.sipush 3000, 3) := by decide +kernel
theorem d_MO_load_8 : decode b_MO_load 8 = .ok (.invokevirtual 81, 3) := by decide +kernel
theorem d_MO_load_11 : decode b_MO_load 11 = .ok (.istore_n 1, 1) := by decide +kernel
theorem d_MO_load_12 : decode b_MO_load 12 = .ok (.iload_n 1, 1) := by decide +kernel
theorem d_MO_load_13 : decode b_MO_load 13 = .ok (.ifCond .eq 29, 3) := by decide +kernel
theorem d_MO_load_16 : decode b_MO_load 16 = .ok (.aload_n 0, 1) := by decide +kernel
theorem d_MO_load_17 : decode b_MO_load 17 = .ok (.aload_n 0, 1) := by decide +kernel
theorem d_MO_load_18 : decode b_MO_load 18 = .ok (.getfield 75, 3) := by decide +kernel
theorem d_MO_load_21 : decode b_MO_load 21 = .ok (.invokevirtual 46, 3) := by decide +kernel
theorem d_MO_load_24 : decode b_MO_load 24 = .ok (.ifCond .eq 18, 3) := by decide +kernel
theorem d_MO_load_27 : decode b_MO_load 27 = .ok (.aload_n 0, 1) := by decide +kernel
theorem d_MO_load_28 : decode b_MO_load 28 = .ok (.aload_n 0, 1) := by decide +kernel
theorem d_MO_load_29 : decode b_MO_load 29 = .ok (.getfield 75, 3) := by decide +kernel
theorem d_MO_load_32 : decode b_MO_load 32 = .ok (.iload_n 1, 1) := by decide +kernel
theorem d_MO_load_33 : decode b_MO_load 33 = .ok (.isub, 1) := by decide +kernel
theorem d_MO_load_34 : decode b_MO_load 34 = .ok (.iconst 1, 1) := by decide +kernel
theorem d_MO_load_35 : decode b_MO_load 35 = .ok (.iadd, 1) := by decide +kernel
theorem d_MO_load_36 : decode b_MO_load 36 = .ok (.invokevirtual 46, 3) := by decide +kernel
theorem d_MO_load_39 : decode b_MO_load 39 = .ok (.ifCond .ne 5, 3) := by decide +kernel
theorem d_MO_load_42 : decode b_MO_load 42 = .ok (.iconst 2, 1) := by decide +kernel
theorem d_MO_load_43 : decode b_MO_load 43 = .ok (.ireturn, 1) := by decide +kernel
theorem d_MO_load_44 : decode b_MO_load 44 = .ok (.iconst 0, 1) := by decide +kernel
theorem d_MO_load_45 : decode b_MO_load 45 = .ok (.istore_n 2, 1) := by decide +kernel
theorem d_MO_load_46 : decode b_MO_load 46 = .ok (.iload_n 2, 1) := by decide +kernel
theorem d_MO_load_47 : decode b_MO_load 47 = .ok (.iload_n 1, 1) := by decide +kernel
theorem d_MO_load_48 : decode b_MO_load 48 = .ok (.if_icmp .ge 26, 3) := by decide +kernel
theorem d_MO_load_51 : decode b_MO_load 51 = .ok (.aload_n 0, 1) := by decide +kernel
theorem d_MO_load_52 : decode b_MO_load 52 = .ok (.getfield 36, 3) := by decide +kernel
theorem d_MO_load_55 : decode b_MO_load 55 = .ok (.iload_n 2, 1) := by decide +kernel
theorem d_MO_load_56 : decode b_MO_load 56 = .ok (.aload_n 0, 1) := by decide +kernel
theorem d_MO_load_57 : decode b_MO_load 57 = .ok (.getfield 7, 3) := by decide +kernel
theorem d_MO_load_60 : decode b_MO_load 60 = .ok (.aload_n 0, 1) := by decide +kernel
theorem d_MO_load_61 : decode b_MO_load 61 = .ok (.getfield 85, 3) := by decide +kernel
theorem d_MO_load_64 : decode b_MO_load 64 = .ok (.iload_n 2, 1) := by decide +kernel
theorem d_MO_load_65 : decode b_MO_load 65 = .ok (.isub, 1) := by decide +kernel
theorem d_MO_load_66 : decode b_MO_load 66 = .ok (.baload, 1) := by decide +kernel
theorem d_MO_load_67 : decode b_MO_load 67 = .ok (.bastore, 1) := by decide +kernel
theorem d_MO_load_68 : decode b_MO_load 68 = .ok (.iinc 2 1, 3) := by decide +kernel
theorem d_MO_load_71 : decode b_MO_load 71 = .ok (.goto (-25), 3) := by decide +kernel
theorem d_MO_load_74 : decode b_MO_load 74 = .ok (.iconst 0, 1) := by decide +kernel
theorem d_MO_load_75 : decode b_MO_load 75 = .ok (.istore_n 2, 1) := by decide +kernel
theorem d_MO_load_76 : decode b_MO_load 76 = .ok (.iload_n 2, 1) := by decide +kernel
theorem d_MO_load_77 : decode b_MO_load 77 = .ok (.iload_n 1, 1) := by decide +kernel
theorem d_MO_load_78 : decode b_MO_load 78 = .ok (.if_icmp .ge 49, 3) := by decide +kernel
theorem d_MO_load_81 : decode b_MO_load 81 = .ok (.aload_n 0, 1) := by decide +kernel
theorem d_MO_load_82 : decode b_MO_load 82 = .ok (.getfield 7, 3) := by decide +kernel
theorem d_MO_load_85 : decode b_MO_load 85 = .ok (.aload_n 0, 1) := by decide +kernel
theorem d_MO_load_86 : decode b_MO_load 86 = .ok (.getfield 75, 3) := by decide +kernel
theorem d_MO_load_89 : decode b_MO_load 89 = .ok (.iload_n 2, 1) := by decide +kernel
theorem d_MO_load_90 : decode b_MO_load 90 = .ok (.isub, 1) := by decide +kernel
theorem d_MO_load_91 : decode b_MO_load 91 = .ok (.aload_n 0, 1) := by decide +kernel
theorem d_MO_load_92 : decode b_MO_load 92 = .ok (.getfield 36, 3) := by decide +kernel
theorem d_MO_load_95 : decode b_MO_load 95 = .ok (.iload_n 2, 1) := by decide +kernel
theorem d_MO_load_96 : decode b_MO_load 96 = .ok (.baload, 1) := by decide +kernel
theorem d_MO_load_97 : decode b_MO_load 97 = .ok (.bastore, 1) := by decide +kernel
theorem d_MO_load_98 : decode b_MO_load 98 = .ok (.aload_n 0, 1) := by decide +kernel
theorem d_MO_load_99 : decode b_MO_load 99 = .ok (.getfield 13, 3) := by decide +kernel
theorem d_MO_load_102 : decode b_MO_load 102 = .ok (.aload_n 0, 1) := by decide +kernel
theorem d_MO_load_103 : decode b_MO_load 103 = .ok (.getfield 75, 3) := by decide +kernel
theorem d_MO_load_106 : decode b_MO_load 106 = .ok (.iload_n 2, 1) := by decide +kernel
theorem d_MO_load_107 : decode b_MO_load 107 = .ok (.isub, 1) := by decide +kernel
theorem d_MO_load_108 : decode b_MO_load 108 = .ok (.iload_n 2, 1) := by decide +kernel
theorem d_MO_load_109 : decode b_MO_load 109 = .ok (.iload_n 1, 1) := by decide +kernel
theorem d_MO_load_110 : decode b_MO_load 110 = .ok (.iconst 1, 1) := by decide +kernel
theorem d_MO_load_111 : decode b_MO_load 111 = .ok (.isub, 1) := by decide +kernel
theorem d_MO_load_112 : decode b_MO_load 112 = .ok (.if_icmp .ne 7, 3) := by decide +kernel
theorem d_MO_load_115 : decode b_MO_load 115 = .ok (.iconst 1, 1) := by decide +kernel
theorem d_MO_load_116 : decode b_MO_load 116 = .ok (.goto 4, 3) := by decide +kernel
theorem d_MO_load_119 : decode b_MO_load 119 = .ok (.iconst 0, 1) := by decide +kernel
theorem d_MO_load_120 : decode b_MO_load 120 = .ok (.bastore, 1) := by decide +kernel
theorem d_MO_load_121 : decode b_MO_load 121 = .ok (.iinc 2 1, 3) := by decide +kernel
theorem d_MO_load_124 : decode b_MO_load 124 = .ok (.goto (-48), 3) := by decide +kernel
theorem d_MO_load_127 : decode b_MO_load 127 = .ok (.aload_n 0, 1) := by decide +kernel
theorem d_MO_load_128 : decode b_MO_load 128 = .ok (.dup, 1) := by decide +kernel
theorem d_MO_load_129 : decode b_MO_load 129 = .ok (.getfield 85, 3) := by decide +kernel
theorem d_MO_load_132 : decode b_MO_load 132 = .ok (.iload_n 1, 1) := by decide +kernel
theorem d_MO_load_133 : decode b_MO_load 133 = .ok (.isub, 1) := by decide +kernel
theorem d_MO_load_134 : decode b_MO_load 134 = .ok (.putfield 85, 3) := by decide +kernel
theorem d_MO_load_137 : decode b_MO_load 137 = .ok (.aload_n 0, 1) := by decide +kernel
theorem d_MO_load_138 : decode b_MO_load 138 = .ok (.dup, 1) := by decide +kernel
theorem d_MO_load_139 : decode b_MO_load 139 = .ok (.getfield 75, 3) := by decide +kernel
theorem d_MO_load_142 : decode b_MO_load 142 = .ok (.iload_n 1, 1) := by decide +kernel
theorem d_MO_load_143 : decode b_MO_load 143 = .ok (.isub, 1) := by decide +kernel
theorem d_MO_load_144 : decode b_MO_load 144 = .ok (.putfield 75, 3) := by decide +kernel
theorem d_MO_load_147 : decode b_MO_load 147 = .ok (.iconst 0, 1) := by decide +kernel
theorem d_MO_load_148 : decode b_MO_load 148 = .ok (.ireturn, 1) := by decide +kernel
theorem d_MO_part_0 : decode b_MO_part 0 = .ok (.aload_n 0, 1) := by decide +kernel
theorem d_MO_part_1 : decode b_MO_part 1 = .ok (.aload_n 0, 1) := by decide +kernel
theorem d_MO_part_2 : decode b_MO_part 2 = .ok (.getfield 85, 3) := by decide +kernel
theorem d_MO_part_5 : decode b_MO_part 5 = .ok (.invokevirtual 46, 3) := by decide +kernel
theorem d_MO_part_8 : decode b_MO_part 8 = .ok (.ifCond .eq 14, 3) := by decide +kernel
theorem d_MO_part_11 : decode b_MO_part 11 = .ok (.aload_n 0, 1) := by decide +kernel
theorem d_MO_part_12 : decode b_MO_part 12 = .ok (.aload_n 0, 1) := by decide +kernel
theorem d_MO_part_13 : decode b_MO_part 13 = .ok (.getfield 75, 3) := by decide +kernel
theorem d_MO_part_16 : decode b_MO_part 16 = .ok (.invokevirtual 46, 3) := by decide +kernel
theorem d_MO_part_19 : decode b_MO_part 19 = .ok (.ifCond .ne 5, 3) := by decide +kernel
theorem d_MO_part_22 : decode b_MO_part 22 = .ok (.iconst 2, 1) := by decide +kernel
theorem d_MO_part_23 : decode b_MO_part 23 = .ok (.ireturn, 1) := by decide +kernel
theorem d_MO_part_24 : decode b_MO_part 24 = .ok (.aload_n 0, 1) := by decide +kernel
theorem d_MO_part_25 : decode b_MO_part 25 = .ok (.getfield 91, 3) := by decide +kernel
theorem d_MO_part_28 : decode b_MO_part 28 = .ok (.bipush 52, 2) := by decide +kernel
theorem d_MO_part_30 : decode b_MO_part 30 = .ok (.if_icmp .ne 8, 3) := by decide +kernel
theorem d_MO_part_33 : decode b_MO_part 33 = .ok (.bipush 48, 2) := by decide +kernel
theorem d_MO_part_35 : decode b_MO_part 35 = .ok (.goto 5, 3) := by decide +kernel
theorem d_MO_part_38 : decode b_MO_part 38 = .ok (.bipush 15, 2) := by decide +kernel
theorem d_MO_part_40 : decode b_MO_part 40 = .ok (.istore_n 1, 1) := by decide +kernel
theorem d_MO_part_41 : decode b_MO_part 41 = .ok (.aload_n 0, 1) := by decide +kernel
theorem d_MO_part_42 : decode b_MO_part 42 = .ok (.getfield 7, 3) := by decide +kernel
theorem d_MO_part_45 : decode b_MO_part 45 = .ok (.aload_n 0, 1) := by decide +kernel
theorem d_MO_part_46 : decode b_MO_part 46 = .ok (.getfield 75, 3) := by decide +kernel
theorem d_MO_part_49 : decode b_MO_part 49 = .ok (.aload_n 0, 1) := by decide +kernel
theorem d_MO_part_50 : decode b_MO_part 50 = .ok (.getfield 7, 3) := by decide +kernel
theorem d_MO_part_53 : decode b_MO_part 53 = .ok (.aload_n 0, 1) := by decide +kernel
theorem d_MO_part_54 : decode b_MO_part 54 = .ok (.getfield 75, 3) := by decide +kernel
theorem d_MO_part_57 : decode b_MO_part 57 = .ok (.baload, 1) := by decide +kernel
theorem d_MO_part_58 : decode b_MO_part 58 = .ok (.iload_n 1, 1) := by decide +kernel
theorem d_MO_part_59 : decode b_MO_part 59 = .ok (.iand, 1) := by decide +kernel
theorem d_MO_part_60 : decode b_MO_part 60 = .ok (.aload_n 0, 1) := by decide +kernel
theorem d_MO_part_61 : decode b_MO_part 61 = .ok (.getfield 7, 3) := by decide +kernel
theorem d_MO_part_64 : decode b_MO_part 64 = .ok (.aload_n 0, 1) := by decide +kernel
theorem d_MO_part_65 : decode b_MO_part 65 = .ok (.getfield 85, 3) := by decide +kernel
theorem d_MO_part_68 : decode b_MO_part 68 = .ok (.baload, 1) := by decide +kernel
theorem d_MO_part_69 : decode b_MO_part 69 = .ok (.bipush 63, 2) := by decide +kernel
theorem d_MO_part_71 : decode b_MO_part 71 = .ok (.iload_n 1, 1) := by decide +kernel
theorem d_MO_part_72 : decode b_MO_part 72 = .ok (.isub, 1) := by decide +kernel
theorem d_MO_part_73 : decode b_MO_part 73 = .ok (.iand, 1) := by decide +kernel
theorem d_MO_part_74 : decode b_MO_part 74 = .ok (.ior, 1) := by decide +kernel
theorem d_MO_part_75 : decode b_MO_part 75 = .ok (.i2b, 1) := by decide +kernel
theorem d_MO_part_76 : decode b_MO_part 76 = .ok (.bastore, 1) := by decide +kernel
theorem d_MO_part_77 : decode b_MO_part 77 = .ok (.aload_n 0, 1) := by decide +kernel
theorem d_MO_part_78 : decode b_MO_part 78 = .ok (.dup, 1) := by decide +kernel
theorem d_MO_part_79 : decode b_MO_part 79 = .ok (.getfield 85, 3) := by decide +kernel
theorem d_MO_part_82 : decode b_MO_part 82 = .ok (.iconst 1, 1) := by decide +kernel
theorem d_MO_part_83 : decode b_MO_part 83 = .ok (.isub, 1) := by decide +kernel
theorem d_MO_part_84 : decode b_MO_part 84 = .ok (.putfield 85, 3) := by decide +kernel
theorem d_MO_part_87 : decode b_MO_part 87 = .ok (.aload_n 0, 1) := by decide +kernel
theorem d_MO_part_88 : decode b_MO_part 88 = .ok (.dup, 1) := by decide +kernel
theorem d_MO_part_89 : decode b_MO_part 89 = .ok (.getfield 75, 3) := by decide +kernel
theorem d_MO_part_92 : decode b_MO_part 92 = .ok (.iconst 1, 1) := by decide +kernel
theorem d_MO_part_93 : decode b_MO_part 93 = .ok (.isub, 1) := by decide +kernel
theorem d_MO_part_94 : decode b_MO_part 94 = .ok (.putfield 75, 3) := by decide +kernel
theorem d_MO_part_97 : decode b_MO_part 97 = .ok (.iconst 0, 1) := by decide +kernel
theorem d_MO_part_98 : decode b_MO_part 98 = .ok (.ireturn, 1) := by decide +kernel
theorem d_MO_rank_0 : decode b_MO_rank 0 = .ok (.iload_n 0, 1) := by decide +kernel
theorem d_MO_rank_1 : decode b_MO_rank 1 = .ok (.bipush 15, 2) := by decide +kernel
theorem d_MO_rank_3 : decode b_MO_rank 3 = .ok (.iand, 1) := by decide +kernel
theorem d_MO_rank_4 : decode b_MO_rank 4 = .ok (.istore_n 1, 1) := by decide +kernel
theorem d_MO_rank_5 : decode b_MO_rank 5 = .ok (.iload_n 1, 1) := by decide +kernel
theorem d_MO_rank_6 : decode b_MO_rank 6 = .ok (.ifCond .eq 9, 3) := by decide +kernel
theorem d_MO_rank_9 : decode b_MO_rank 9 = .ok (.iload_n 1, 1) := by decide +kernel
theorem d_MO_rank_10 : decode b_MO_rank 10 = .ok (.bipush 10, 2) := by decide +kernel
theorem d_MO_rank_12 : decode b_MO_rank 12 = .ok (.if_icmp .le 7, 3) := by decide +kernel
theorem d_MO_rank_15 : decode b_MO_rank 15 = .ok (.iconst 1, 1) := by decide +kernel
theorem d_MO_rank_16 : decode b_MO_rank 16 = .ok (.goto 4, 3) := by decide +kernel
theorem d_MO_rank_19 : decode b_MO_rank 19 = .ok (.iconst 0, 1) := by decide +kernel
theorem d_MO_rank_20 : decode b_MO_rank 20 = .ok (.istore_n 2, 1) := by decide +kernel
theorem d_MO_rank_21 : decode b_MO_rank 21 = .ok (.iconst 3, 1) := by decide +kernel
theorem d_MO_rank_22 : decode b_MO_rank 22 = .ok (.iload_n 0, 1) := by decide +kernel
theorem d_MO_rank_23 : decode b_MO_rank 23 = .ok (.iconst 4, 1) := by decide +kernel
theorem d_MO_rank_24 : decode b_MO_rank 24 = .ok (.ishr, 1) := by decide +kernel
theorem d_MO_rank_25 : decode b_MO_rank 25 = .ok (.isub, 1) := by decide +kernel
theorem d_MO_rank_26 : decode b_MO_rank 26 = .ok (.istore_n 3, 1) := by decide +kernel
theorem d_MO_rank_27 : decode b_MO_rank 27 = .ok (.iload_n 2, 1) := by decide +kernel
theorem d_MO_rank_28 : decode b_MO_rank 28 = .ok (.ifCond .eq 12, 3) := by decide +kernel
theorem d_MO_rank_31 : decode b_MO_rank 31 = .ok (.bipush 16, 2) := by decide +kernel
theorem d_MO_rank_33 : decode b_MO_rank 33 = .ok (.iload_n 3, 1) := by decide +kernel
theorem d_MO_rank_34 : decode b_MO_rank 34 = .ok (.imul, 1) := by decide +kernel
theorem d_MO_rank_35 : decode b_MO_rank 35 = .ok (.iload_n 1, 1) := by decide +kernel
theorem d_MO_rank_36 : decode b_MO_rank 36 = .ok (.iadd, 1) := by decide +kernel
theorem d_MO_rank_37 : decode b_MO_rank 37 = .ok (.goto 22, 3) := by decide +kernel
theorem d_MO_rank_40 : decode b_MO_rank 40 = .ok (.bipush 64, 2) := by decide +kernel
theorem d_MO_rank_42 : decode b_MO_rank 42 = .ok (.bipush 16, 2) := by decide +kernel
theorem d_MO_rank_44 : decode b_MO_rank 44 = .ok (.iload_n 3, 1) := by decide +kernel
theorem d_MO_rank_45 : decode b_MO_rank 45 = .ok (.imul, 1) := by decide +kernel
theorem d_MO_rank_46 : decode b_MO_rank 46 = .ok (.iadd, 1) := by decide +kernel
theorem d_MO_rank_47 : decode b_MO_rank 47 = .ok (.iload_n 1, 1) := by decide +kernel
theorem d_MO_rank_48 : decode b_MO_rank 48 = .ok (.bipush 10, 2) := by decide +kernel
theorem d_MO_rank_50 : decode b_MO_rank 50 = .ok (.if_icmp .ne 7, 3) := by decide +kernel
theorem d_MO_rank_53 : decode b_MO_rank 53 = .ok (.iconst 0, 1) := by decide +kernel
theorem d_MO_rank_54 : decode b_MO_rank 54 = .ok (.goto 4, 3) := by decide +kernel
theorem d_MO_rank_57 : decode b_MO_rank 57 = .ok (.iload_n 1, 1) := by decide +kernel
theorem d_MO_rank_58 : decode b_MO_rank 58 = .ok (.iadd, 1) := by decide +kernel
theorem d_MO_rank_59 : decode b_MO_rank 59 = .ok (.ireturn, 1) := by decide +kernel
theorem d_MO_compare_0 : decode b_MO_compare 0 = .ok (.aload_n 0, 1) := by decide +kernel
theorem d_MO_compare_1 : decode b_MO_compare 1 = .ok (.invokevirtual 109, 3) := by decide +kernel
theorem d_MO_compare_4 : decode b_MO_compare 4 = .ok (.istore_n 1, 1) := by decide +kernel
theorem d_MO_compare_5 : decode b_MO_compare 5 = .ok (.iload_n 1, 1) := by decide +kernel
theorem d_MO_compare_6 : decode b_MO_compare 6 = .ok (.ifCond .ne 5, 3) := by decide +kernel
theorem d_MO_compare_9 : decode b_MO_compare 9 = .ok (.iconst 2, 1) := by decide +kernel
theorem d_MO_compare_10 : decode b_MO_compare 10 = .ok (.ireturn, 1) := by decide +kernel
theorem d_MO_compare_11 : decode b_MO_compare 11 = .ok (.aload_n 0, 1) := by decide +kernel
theorem d_MO_compare_12 : decode b_MO_compare 12 = .ok (.iconst 0, 1) := by decide +kernel
theorem d_MO_compare_13 : decode b_MO_compare 13 = .ok (.putfield 113, 3) := by decide +kernel
theorem d_MO_compare_16 : decode b_MO_compare 16 = .ok (.iconst 0, 1) := by decide +kernel
theorem d_MO_compare_17 : decode b_MO_compare 17 = .ok (.istore_n 2, 1) := by decide +kernel
theorem d_MO_compare_18 : decode b_MO_compare 18 = .ok (.iload_n 2, 1) := by decide +kernel
theorem d_MO_compare_19 : decode b_MO_compare 19 = .ok (.iload_n 1, 1) := by decide +kernel
theorem d_MO_compare_20 : decode b_MO_compare 20 = .ok (.if_icmp .ge 68, 3) := by decide +kernel
theorem d_MO_compare_23 : decode b_MO_compare 23 = .ok (.aload_n 0, 1) := by decide +kernel
theorem d_MO_compare_24 : decode b_MO_compare 24 = .ok (.getfield 7, 3) := by decide +kernel
theorem d_MO_compare_27 : decode b_MO_compare 27 = .ok (.aload_n 0, 1) := by decide +kernel
theorem d_MO_compare_28 : decode b_MO_compare 28 = .ok (.getfield 85, 3) := by decide +kernel
theorem d_MO_compare_31 : decode b_MO_compare 31 = .ok (.iload_n 2, 1) := by decide +kernel
theorem d_MO_compare_32 : decode b_MO_compare 32 = .ok (.isub, 1) := by decide +kernel
theorem d_MO_compare_33 : decode b_MO_compare 33 = .ok (.baload, 1) := by decide +kernel
theorem d_MO_compare_34 : decode b_MO_compare 34 = .ok (.invokestatic 116, 3) := by decide +kernel
theorem d_MO_compare_37 : decode b_MO_compare 37 = .ok (.istore_n 3, 1) := by decide +kernel
theorem d_MO_compare_38 : decode b_MO_compare 38 = .ok (.aload_n 0, 1) := by decide +kernel
theorem d_MO_compare_39 : decode b_MO_compare 39 = .ok (.getfield 7, 3) := by decide +kernel
theorem d_MO_compare_42 : decode b_MO_compare 42 = .ok (.aload_n 0, 1) := by decide +kernel
theorem d_MO_compare_43 : decode b_MO_compare 43 = .ok (.getfield 75, 3) := by decide +kernel
theorem d_MO_compare_46 : decode b_MO_compare 46 = .ok (.iload_n 2, 1) := by decide +kernel
theorem d_MO_compare_47 : decode b_MO_compare 47 = .ok (.isub, 1) := by decide +kernel
theorem d_MO_compare_48 : decode b_MO_compare 48 = .ok (.baload, 1) := by decide +kernel
theorem d_MO_compare_49 : decode b_MO_compare 49 = .ok (.invokestatic 116, 3) := by decide +kernel
theorem d_MO_compare_52 : decode b_MO_compare 52 = .ok (.istore 4, 2) := by decide +kernel
theorem d_MO_compare_54 : decode b_MO_compare 54 = .ok (.aload_n 0, 1) := by decide +kernel
theorem d_MO_compare_55 : decode b_MO_compare 55 = .ok (.iload_n 3, 1) := by decide +kernel
theorem d_MO_compare_56 : decode b_MO_compare 56 = .ok (.iload 4, 2) := by decide +kernel
theorem d_MO_compare_58 : decode b_MO_compare 58 = .ok (.if_icmp .ne 10, 3) := by decide +kernel
theorem d_MO_compare_61 : decode b_MO_compare 61 = .ok (.aload_n 0, 1) := by decide +kernel
theorem d_MO_compare_62 : decode b_MO_compare 62 = .ok (.getfield 113, 3) := by decide +kernel
theorem d_MO_compare_65 : decode b_MO_compare 65 = .ok (.goto 14, 3) := by decide +kernel
theorem d_MO_compare_68 : decode b_MO_compare 68 = .ok (.iload 4, 2) := by decide +kernel
theorem d_MO_compare_70 : decode b_MO_compare 70 = .ok (.iload_n 3, 1) := by decide +kernel
theorem d_MO_compare_71 : decode b_MO_compare 71 = .ok (.if_icmp .le 7, 3) := by decide +kernel
theorem d_MO_compare_74 : decode b_MO_compare 74 = .ok (.iconst 1, 1) := by decide +kernel
theorem d_MO_compare_75 : decode b_MO_compare 75 = .ok (.goto 4, 3) := by decide +kernel
theorem d_MO_compare_78 : decode b_MO_compare 78 = .ok (.iconst (-1), 1) := by decide +kernel
theorem d_MO_compare_79 : decode b_MO_compare 79 = .ok (.putfield 113, 3) := by decide +kernel
theorem d_MO_compare_82 : decode b_MO_compare 82 = .ok (.iinc 2 1, 3) := by decide +kernel
theorem d_MO_compare_85 : decode b_MO_compare 85 = .ok (.goto (-67), 3) := by decide +kernel
theorem d_MO_compare_88 : decode b_MO_compare 88 = .ok (.aload_n 0, 1) := by decide +kernel
theorem d_MO_compare_89 : decode b_MO_compare 89 = .ok (.aload_n 0, 1) := by decide +kernel
theorem d_MO_compare_90 : decode b_MO_compare 90 = .ok (.getfield 13, 3) := by decide +kernel
theorem d_MO_compare_93 : decode b_MO_compare 93 = .ok (.aload_n 0, 1) := by decide +kernel
theorem d_MO_compare_94 : decode b_MO_compare 94 = .ok (.getfield 75, 3) := by decide +kernel
theorem d_MO_compare_97 : decode b_MO_compare 97 = .ok (.iload_n 1, 1) := by decide +kernel
theorem d_MO_compare_98 : decode b_MO_compare 98 = .ok (.isub, 1) := by decide +kernel
theorem d_MO_compare_99 : decode b_MO_compare 99 = .ok (.iconst 1, 1) := by decide +kernel
theorem d_MO_compare_100 : decode b_MO_compare 100 = .ok (.iadd, 1) := by decide +kernel
theorem d_MO_compare_101 : decode b_MO_compare 101 = .ok (.baload, 1) := by decide +kernel
theorem d_MO_compare_102 : decode b_MO_compare 102 = .ok (.ifCond .eq 10, 3) := by decide +kernel
theorem d_MO_compare_105 : decode b_MO_compare 105 = .ok (.aload_n 0, 1) := by decide +kernel
theorem d_MO_compare_106 : decode b_MO_compare 106 = .ok (.getfield 113, 3) := by decide +kernel
theorem d_MO_compare_109 : decode b_MO_compare 109 = .ok (.goto 4, 3) := by decide +kernel
theorem d_MO_compare_112 : decode b_MO_compare 112 = .ok (.iconst 1, 1) := by decide +kernel
theorem d_MO_compare_113 : decode b_MO_compare 113 = .ok (.putfield 113, 3) := by decide +kernel
theorem d_MO_compare_116 : decode b_MO_compare 116 = .ok (.aload_n 0, 1) := by decide +kernel
theorem d_MO_compare_117 : decode b_MO_compare 117 = .ok (.dup, 1) := by decide +kernel
theorem d_MO_compare_118 : decode b_MO_compare 118 = .ok (.getfield 85, 3) := by decide +kernel
theorem d_MO_compare_121 : decode b_MO_compare 121 = .ok (.iload_n 1, 1) := by decide +kernel
theorem d_MO_compare_122 : decode b_MO_compare 122 = .ok (.isub, 1) := by decide +kernel
theorem d_MO_compare_123 : decode b_MO_compare 123 = .ok (.putfield 85, 3) := by decide +kernel
theorem d_MO_compare_126 : decode b_MO_compare 126 = .ok (.aload_n 0, 1) := by decide +kernel
theorem d_MO_compare_127 : decode b_MO_compare 127 = .ok (.dup, 1) := by decide +kernel
theorem d_MO_compare_128 : decode b_MO_compare 128 = .ok (.getfield 75, 3) := by decide +kernel
theorem d_MO_compare_131 : decode b_MO_compare 131 = .ok (.iload_n 1, 1) := by decide +kernel
theorem d_MO_compare_132 : decode b_MO_compare 132 = .ok (.isub, 1) := by decide +kernel
theorem d_MO_compare_133 : decode b_MO_compare 133 = .ok (.putfield 75, 3) := by decide +kernel
theorem d_MO_compare_136 : decode b_MO_compare 136 = .ok (.iconst 0, 1) := by decide +kernel
theorem d_MO_compare_137 : decode b_MO_compare 137 = .ok (.ireturn, 1) := by decide +kernel
theorem d_MO_marks_0 : decode b_MO_marks 0 = .ok (.aload_n 0, 1) := by decide +kernel
theorem d_MO_marks_1 : decode b_MO_marks 1 = .ok (.aload_n 0, 1) := by decide +kernel
theorem d_MO_marks_2 : decode b_MO_marks 2 = .ok (.getfield 85, 3) := by decide +kernel
theorem d_MO_marks_5 : decode b_MO_marks 5 = .ok (.invokevirtual 46, 3) := by decide +kernel
theorem d_MO_marks_8 : decode b_MO_marks 8 = .ok (.ifCond .eq 14, 3) := by decide +kernel
theorem d_MO_marks_11 : decode b_MO_marks 11 = .ok (.aload_n 0, 1) := by decide +kernel
theorem d_MO_marks_12 : decode b_MO_marks 12 = .ok (.aload_n 0, 1) := by decide +kernel
theorem d_MO_marks_13 : decode b_MO_marks 13 = .ok (.getfield 75, 3) := by decide +kernel
theorem d_MO_marks_16 : decode b_MO_marks 16 = .ok (.invokevirtual 46, 3) := by decide +kernel
theorem d_MO_marks_19 : decode b_MO_marks 19 = .ok (.ifCond .ne 5, 3) := by decide +kernel
theorem d_MO_marks_22 : decode b_MO_marks 22 = .ok (.iconst 2, 1) := by decide +kernel
theorem d_MO_marks_23 : decode b_MO_marks 23 = .ok (.ireturn, 1) := by decide +kernel
theorem d_MO_marks_24 : decode b_MO_marks 24 = .ok (.aload_n 0, 1) := by decide +kernel
theorem d_MO_marks_25 : decode b_MO_marks 25 = .ok (.getfield 13, 3) := by decide +kernel
theorem d_MO_marks_28 : decode b_MO_marks 28 = .ok (.aload_n 0, 1) := by decide +kernel
theorem d_MO_marks_29 : decode b_MO_marks 29 = .ok (.getfield 85, 3) := by decide +kernel
theorem d_MO_marks_32 : decode b_MO_marks 32 = .ok (.aload_n 0, 1) := by decide +kernel
theorem d_MO_marks_33 : decode b_MO_marks 33 = .ok (.getfield 91, 3) := by decide +kernel
theorem d_MO_marks_36 : decode b_MO_marks 36 = .ok (.bipush 27, 2) := by decide +kernel
theorem d_MO_marks_38 : decode b_MO_marks 38 = .ok (.if_icmp .ne 7, 3) := by decide +kernel
theorem d_MO_marks_41 : decode b_MO_marks 41 = .ok (.iconst 1, 1) := by decide +kernel
theorem d_MO_marks_42 : decode b_MO_marks 42 = .ok (.goto 4, 3) := by decide +kernel
theorem d_MO_marks_45 : decode b_MO_marks 45 = .ok (.iconst 0, 1) := by decide +kernel
theorem d_MO_marks_46 : decode b_MO_marks 46 = .ok (.bastore, 1) := by decide +kernel
theorem d_MO_marks_47 : decode b_MO_marks 47 = .ok (.aload_n 0, 1) := by decide +kernel
theorem d_MO_marks_48 : decode b_MO_marks 48 = .ok (.getfield 13, 3) := by decide +kernel
theorem d_MO_marks_51 : decode b_MO_marks 51 = .ok (.aload_n 0, 1) := by decide +kernel
theorem d_MO_marks_52 : decode b_MO_marks 52 = .ok (.getfield 75, 3) := by decide +kernel
theorem d_MO_marks_55 : decode b_MO_marks 55 = .ok (.aload_n 0, 1) := by decide +kernel
theorem d_MO_marks_56 : decode b_MO_marks 56 = .ok (.getfield 91, 3) := by decide +kernel
theorem d_MO_marks_59 : decode b_MO_marks 59 = .ok (.bipush 27, 2) := by decide +kernel
theorem d_MO_marks_61 : decode b_MO_marks 61 = .ok (.if_icmp .ne 7, 3) := by decide +kernel
theorem d_MO_marks_64 : decode b_MO_marks 64 = .ok (.iconst 1, 1) := by decide +kernel
theorem d_MO_marks_65 : decode b_MO_marks 65 = .ok (.goto 4, 3) := by decide +kernel
theorem d_MO_marks_68 : decode b_MO_marks 68 = .ok (.iconst 0, 1) := by decide +kernel
theorem d_MO_marks_69 : decode b_MO_marks 69 = .ok (.bastore, 1) := by decide +kernel
theorem d_MO_marks_70 : decode b_MO_marks 70 = .ok (.aload_n 0, 1) := by decide +kernel
theorem d_MO_marks_71 : decode b_MO_marks 71 = .ok (.dup, 1) := by decide +kernel
theorem d_MO_marks_72 : decode b_MO_marks 72 = .ok (.getfield 85, 3) := by decide +kernel
theorem d_MO_marks_75 : decode b_MO_marks 75 = .ok (.iconst 1, 1) := by decide +kernel
theorem d_MO_marks_76 : decode b_MO_marks 76 = .ok (.isub, 1) := by decide +kernel
theorem d_MO_marks_77 : decode b_MO_marks 77 = .ok (.putfield 85, 3) := by decide +kernel
theorem d_MO_marks_80 : decode b_MO_marks 80 = .ok (.aload_n 0, 1) := by decide +kernel
theorem d_MO_marks_81 : decode b_MO_marks 81 = .ok (.dup, 1) := by decide +kernel
theorem d_MO_marks_82 : decode b_MO_marks 82 = .ok (.getfield 75, 3) := by decide +kernel
theorem d_MO_marks_85 : decode b_MO_marks 85 = .ok (.iconst 1, 1) := by decide +kernel
theorem d_MO_marks_86 : decode b_MO_marks 86 = .ok (.isub, 1) := by decide +kernel
theorem d_MO_marks_87 : decode b_MO_marks 87 = .ok (.putfield 75, 3) := by decide +kernel
theorem d_MO_marks_90 : decode b_MO_marks 90 = .ok (.iconst 0, 1) := by decide +kernel
theorem d_MO_marks_91 : decode b_MO_marks 91 = .ok (.ireturn, 1) := by decide +kernel
theorem d_MO_go_0 : decode b_MO_go 0 = .ok (.aload_n 0, 1) := by decide +kernel
theorem d_MO_go_1 : decode b_MO_go 1 = .ok (.getfield 85, 3) := by decide +kernel
theorem d_MO_go_4 : decode b_MO_go 4 = .ok (.istore_n 1, 1) := by decide +kernel
theorem d_MO_go_5 : decode b_MO_go 5 = .ok (.aload_n 0, 1) := by decide +kernel
theorem d_MO_go_6 : decode b_MO_go 6 = .ok (.aload_n 0, 1) := by decide +kernel
theorem d_MO_go_7 : decode b_MO_go 7 = .ok (.getfield 65, 3) := by decide +kernel
theorem d_MO_go_10 : decode b_MO_go 10 = .ok (.putfield 85, 3) := by decide +kernel
theorem d_MO_go_13 : decode b_MO_go 13 = .ok (.aload_n 0, 1) := by decide +kernel
theorem d_MO_go_14 : decode b_MO_go 14 = .ok (.iload_n 1, 1) := by decide +kernel
theorem d_MO_go_15 : decode b_MO_go 15 = .ok (.putfield 65, 3) := by decide +kernel
theorem d_MO_go_18 : decode b_MO_go 18 = .ok (.return_, 1) := by decide +kernel
theorem d_MO_clear_0 : decode b_MO_clear 0 = .ok (.aload_n 0, 1) := by decide +kernel
theorem d_MO_clear_1 : decode b_MO_clear 1 = .ok (.aload_n 0, 1) := by decide +kernel
theorem d_MO_clear_2 : decode b_MO_clear 2 = .ok (.getfield 75, 3) := by decide +kernel
theorem d_MO_clear_5 : decode b_MO_clear 5 = .ok (.invokevirtual 46, 3) := by decide +kernel
theorem d_MO_clear_8 : decode b_MO_clear 8 = .ok (.ifCond .ne 5, 3) := by decide +kernel
theorem d_MO_clear_11 : decode b_MO_clear 11 = .ok (.iconst 2, 1) := by decide +kernel
theorem d_MO_clear_12 : decode b_MO_clear 12 = .ok (.ireturn, 1) := by decide +kernel
theorem d_MO_clear_13 : decode b_MO_clear 13 = .ok (.aload_n 0, 1) := by decide +kernel
theorem d_MO_clear_14 : decode b_MO_clear 14 = .ok (.getfield 75, 3) := by decide +kernel
theorem d_MO_clear_17 : decode b_MO_clear 17 = .ok (.bipush 100, 2) := by decide +kernel
theorem d_MO_clear_19 : decode b_MO_clear 19 = .ok (.idiv, 1) := by decide +kernel
theorem d_MO_clear_20 : decode b_MO_clear 20 = .ok (.bipush 100, 2) := by decide +kernel
theorem d_MO_clear_22 : decode b_MO_clear 22 = .ok (.imul, 1) := by decide +kernel
theorem d_MO_clear_23 : decode b_MO_clear 23 = .ok (.istore_n 1, 1) := by decide +kernel
theorem d_MO_clear_24 : decode b_MO_clear 24 = .ok (.iload_n 1, 1) := by decide +kernel
theorem d_MO_clear_25 : decode b_MO_clear 25 = .ok (.istore_n 2, 1) := by decide +kernel
theorem d_MO_clear_26 : decode b_MO_clear 26 = .ok (.iload_n 2, 1) := by decide +kernel
theorem d_MO_clear_27 : decode b_MO_clear 27 = .ok (.aload_n 0, 1) := by decide +kernel
theorem d_MO_clear_28 : decode b_MO_clear 28 = .ok (.getfield 75, 3) := by decide +kernel
theorem d_MO_clear_31 : decode b_MO_clear 31 = .ok (.if_icmp .gt 23, 3) := by decide +kernel
theorem d_MO_clear_34 : decode b_MO_clear 34 = .ok (.aload_n 0, 1) := by decide +kernel
theorem d_MO_clear_35 : decode b_MO_clear 35 = .ok (.getfield 7, 3) := by decide +kernel
theorem d_MO_clear_38 : decode b_MO_clear 38 = .ok (.iload_n 2, 1) := by decide +kernel
theorem d_MO_clear_39 : decode b_MO_clear 39 = .ok (.iconst 0, 1) := by decide +kernel
theorem d_MO_clear_40 : decode b_MO_clear 40 = .ok (.bastore, 1) := by decide +kernel
theorem d_MO_clear_41 : decode b_MO_clear 41 = .ok (.aload_n 0, 1) := by decide +kernel
theorem d_MO_clear_42 : decode b_MO_clear 42 = .ok (.getfield 13, 3) := by decide +kernel
theorem d_MO_clear_45 : decode b_MO_clear 45 = .ok (.iload_n 2, 1) := by decide +kernel
theorem d_MO_clear_46 : decode b_MO_clear 46 = .ok (.iconst 0, 1) := by decide +kernel
theorem d_MO_clear_47 : decode b_MO_clear 47 = .ok (.bastore, 1) := by decide +kernel
theorem d_MO_clear_48 : decode b_MO_clear 48 = .ok (.iinc 2 1, 3) := by decide +kernel
theorem d_MO_clear_51 : decode b_MO_clear 51 = .ok (.goto (-25), 3) := by decide +kernel
theorem d_MO_clear_54 : decode b_MO_clear 54 = .ok (.aload_n 0, 1) := by decide +kernel
theorem d_MO_clear_55 : decode b_MO_clear 55 = .ok (.iload_n 1, 1) := by decide +kernel
theorem d_MO_clear_56 : decode b_MO_clear 56 = .ok (.iconst 1, 1) := by decide +kernel
theorem d_MO_clear_57 : decode b_MO_clear 57 = .ok (.isub, 1) := by decide +kernel
theorem d_MO_clear_58 : decode b_MO_clear 58 = .ok (.putfield 75, 3) := by decide +kernel
theorem d_MO_clear_61 : decode b_MO_clear 61 = .ok (.aload_n 0, 1) := by decide +kernel
theorem d_MO_clear_62 : decode b_MO_clear 62 = .ok (.getfield 119, 3) := by decide +kernel
theorem d_MO_clear_65 : decode b_MO_clear 65 = .ok (.bipush 7, 2) := by decide +kernel
theorem d_MO_clear_67 : decode b_MO_clear 67 = .ok (.if_icmp .ne 7, 3) := by decide +kernel
theorem d_MO_clear_70 : decode b_MO_clear 70 = .ok (.aload_n 0, 1) := by decide +kernel
theorem d_MO_clear_71 : decode b_MO_clear 71 = .ok (.invokevirtual 122, 3) := by decide +kernel
theorem d_MO_clear_74 : decode b_MO_clear 74 = .ok (.iconst 0, 1) := by decide +kernel
theorem d_MO_clear_75 : decode b_MO_clear 75 = .ok (.ireturn, 1) := by decide +kernel
theorem d_MO_edit_0 : decode b_MO_edit 0 = .ok (.aload_n 0, 1) := by decide +kernel
theorem d_MO_edit_1 : decode b_MO_edit 1 = .ok (.aload_n 0, 1) := by decide +kernel
theorem d_MO_edit_2 : decode b_MO_edit 2 = .ok (.getfield 85, 3) := by decide +kernel
theorem d_MO_edit_5 : decode b_MO_edit 5 = .ok (.sipush 3000, 3) := by decide +kernel
theorem d_MO_edit_8 : decode b_MO_edit 8 = .ok (.invokevirtual 81, 3) := by decide +kernel
theorem d_MO_edit_11 : decode b_MO_edit 11 = .ok (.istore_n 1, 1) := by decide +kernel
theorem d_MO_edit_12 : decode b_MO_edit 12 = .ok (.iload_n 1, 1) := by decide +kernel
theorem d_MO_edit_13 : decode b_MO_edit 13 = .ok (.ifCond .eq 29, 3) := by decide +kernel
theorem d_MO_edit_16 : decode b_MO_edit 16 = .ok (.aload_n 0, 1) := by decide +kernel
theorem d_MO_edit_17 : decode b_MO_edit 17 = .ok (.aload_n 0, 1) := by decide +kernel
theorem d_MO_edit_18 : decode b_MO_edit 18 = .ok (.getfield 75, 3) := by decide +kernel
theorem d_MO_edit_21 : decode b_MO_edit 21 = .ok (.invokevirtual 46, 3) := by decide +kernel
theorem d_MO_edit_24 : decode b_MO_edit 24 = .ok (.ifCond .eq 18, 3) := by decide +kernel
theorem d_MO_edit_27 : decode b_MO_edit 27 = .ok (.aload_n 0, 1) := by decide +kernel
theorem d_MO_edit_28 : decode b_MO_edit 28 = .ok (.aload_n 0, 1) := by decide +kernel
theorem d_MO_edit_29 : decode b_MO_edit 29 = .ok (.getfield 75, 3) := by decide +kernel
theorem d_MO_edit_32 : decode b_MO_edit 32 = .ok (.iload_n 1, 1) := by decide +kernel
theorem d_MO_edit_33 : decode b_MO_edit 33 = .ok (.isub, 1) := by decide +kernel
theorem d_MO_edit_34 : decode b_MO_edit 34 = .ok (.iconst 1, 1) := by decide +kernel
theorem d_MO_edit_35 : decode b_MO_edit 35 = .ok (.iadd, 1) := by decide +kernel
theorem d_MO_edit_36 : decode b_MO_edit 36 = .ok (.invokevirtual 46, 3) := by decide +kernel
theorem d_MO_edit_39 : decode b_MO_edit 39 = .ok (.ifCond .ne 5, 3) := by decide +kernel
theorem d_MO_edit_42 : decode b_MO_edit 42 = .ok (.iconst 2, 1) := by decide +kernel
theorem d_MO_edit_43 : decode b_MO_edit 43 = .ok (.ireturn, 1) := by decide +kernel
theorem d_MO_edit_44 : decode b_MO_edit 44 = .ok (.iconst 0, 1) := by decide +kernel
theorem d_MO_edit_45 : decode b_MO_edit 45 = .ok (.istore_n 2, 1) := by decide +kernel
theorem d_MO_edit_46 : decode b_MO_edit 46 = .ok (.iload_n 2, 1) := by decide +kernel
theorem d_MO_edit_47 : decode b_MO_edit 47 = .ok (.iload_n 1, 1) := by decide +kernel
theorem d_MO_edit_48 : decode b_MO_edit 48 = .ok (.if_icmp .ge 51, 3) := by decide +kernel
theorem d_MO_edit_51 : decode b_MO_edit 51 = .ok (.aload_n 0, 1) := by decide +kernel
theorem d_MO_edit_52 : decode b_MO_edit 52 = .ok (.getfield 7, 3) := by decide +kernel
theorem d_MO_edit_55 : decode b_MO_edit 55 = .ok (.aload_n 0, 1) := by decide +kernel
theorem d_MO_edit_56 : decode b_MO_edit 56 = .ok (.getfield 75, 3) := by decide +kernel
theorem d_MO_edit_59 : decode b_MO_edit 59 = .ok (.iload_n 2, 1) := by decide +kernel
theorem d_MO_edit_60 : decode b_MO_edit 60 = .ok (.isub, 1) := by decide +kernel
theorem d_MO_edit_61 : decode b_MO_edit 61 = .ok (.iload_n 2, 1) := by decide +kernel
theorem d_MO_edit_62 : decode b_MO_edit 62 = .ok (.ifCond .ne 18, 3) := by decide +kernel
theorem d_MO_edit_65 : decode b_MO_edit 65 = .ok (.aload_n 0, 1) := by decide +kernel
theorem d_MO_edit_66 : decode b_MO_edit 66 = .ok (.getfield 7, 3) := by decide +kernel
theorem d_MO_edit_69 : decode b_MO_edit 69 = .ok (.aload_n 0, 1) := by decide +kernel
theorem d_MO_edit_70 : decode b_MO_edit 70 = .ok (.getfield 85, 3) := by decide +kernel
theorem d_MO_edit_73 : decode b_MO_edit 73 = .ok (.baload, 1) := by decide +kernel
theorem d_MO_edit_74 : decode b_MO_edit 74 = .ok (.bipush 15, 2) := by decide +kernel
theorem d_MO_edit_76 : decode b_MO_edit 76 = .ok (.iand, 1) := by decide +kernel
theorem d_MO_edit_77 : decode b_MO_edit 77 = .ok (.goto 14, 3) := by decide +kernel
theorem d_MO_edit_80 : decode b_MO_edit 80 = .ok (.aload_n 0, 1) := by decide +kernel
theorem d_MO_edit_81 : decode b_MO_edit 81 = .ok (.getfield 7, 3) := by decide +kernel
theorem d_MO_edit_84 : decode b_MO_edit 84 = .ok (.aload_n 0, 1) := by decide +kernel
theorem d_MO_edit_85 : decode b_MO_edit 85 = .ok (.getfield 85, 3) := by decide +kernel
theorem d_MO_edit_88 : decode b_MO_edit 88 = .ok (.iload_n 2, 1) := by decide +kernel
theorem d_MO_edit_89 : decode b_MO_edit 89 = .ok (.isub, 1) := by decide +kernel
theorem d_MO_edit_90 : decode b_MO_edit 90 = .ok (.baload, 1) := by decide +kernel
theorem d_MO_edit_91 : decode b_MO_edit 91 = .ok (.i2b, 1) := by decide +kernel
theorem d_MO_edit_92 : decode b_MO_edit 92 = .ok (.bastore, 1) := by decide +kernel
theorem d_MO_edit_93 : decode b_MO_edit 93 = .ok (.iinc 2 1, 3) := by decide +kernel
theorem d_MO_edit_96 : decode b_MO_edit 96 = .ok (.goto (-50), 3) := by decide +kernel
theorem d_MO_edit_99 : decode b_MO_edit 99 = .ok (.iconst 1, 1) := by decide +kernel
theorem d_MO_edit_100 : decode b_MO_edit 100 = .ok (.istore_n 2, 1) := by decide +kernel
theorem d_MO_edit_101 : decode b_MO_edit 101 = .ok (.aload_n 0, 1) := by decide +kernel
theorem d_MO_edit_102 : decode b_MO_edit 102 = .ok (.getfield 75, 3) := by decide +kernel
theorem d_MO_edit_105 : decode b_MO_edit 105 = .ok (.iload_n 1, 1) := by decide +kernel
theorem d_MO_edit_106 : decode b_MO_edit 106 = .ok (.isub, 1) := by decide +kernel
theorem d_MO_edit_107 : decode b_MO_edit 107 = .ok (.iconst 1, 1) := by decide +kernel
theorem d_MO_edit_108 : decode b_MO_edit 108 = .ok (.iadd, 1) := by decide +kernel
theorem d_MO_edit_109 : decode b_MO_edit 109 = .ok (.istore_n 3, 1) := by decide +kernel
theorem d_MO_edit_110 : decode b_MO_edit 110 = .ok (.iload_n 3, 1) := by decide +kernel
theorem d_MO_edit_111 : decode b_MO_edit 111 = .ok (.aload_n 0, 1) := by decide +kernel
theorem d_MO_edit_112 : decode b_MO_edit 112 = .ok (.getfield 75, 3) := by decide +kernel
theorem d_MO_edit_115 : decode b_MO_edit 115 = .ok (.if_icmp .gt 70, 3) := by decide +kernel
theorem d_MO_edit_118 : decode b_MO_edit 118 = .ok (.iload_n 2, 1) := by decide +kernel
theorem d_MO_edit_119 : decode b_MO_edit 119 = .ok (.ifCond .eq 38, 3) := by decide +kernel
theorem d_MO_edit_122 : decode b_MO_edit 122 = .ok (.aload_n 0, 1) := by decide +kernel
theorem d_MO_edit_123 : decode b_MO_edit 123 = .ok (.getfield 7, 3) := by decide +kernel
theorem d_MO_edit_126 : decode b_MO_edit 126 = .ok (.iload_n 3, 1) := by decide +kernel
theorem d_MO_edit_127 : decode b_MO_edit 127 = .ok (.baload, 1) := by decide +kernel
theorem d_MO_edit_128 : decode b_MO_edit 128 = .ok (.bipush 10, 2) := by decide +kernel
theorem d_MO_edit_130 : decode b_MO_edit 130 = .ok (.if_icmp .eq 23, 3) := by decide +kernel
theorem d_MO_edit_133 : decode b_MO_edit 133 = .ok (.aload_n 0, 1) := by decide +kernel
theorem d_MO_edit_134 : decode b_MO_edit 134 = .ok (.getfield 7, 3) := by decide +kernel
theorem d_MO_edit_137 : decode b_MO_edit 137 = .ok (.iload_n 3, 1) := by decide +kernel
theorem d_MO_edit_138 : decode b_MO_edit 138 = .ok (.baload, 1) := by decide +kernel
theorem d_MO_edit_139 : decode b_MO_edit 139 = .ok (.ifCond .eq 14, 3) := by decide +kernel
theorem d_MO_edit_142 : decode b_MO_edit 142 = .ok (.aload_n 0, 1) := by decide +kernel
theorem d_MO_edit_143 : decode b_MO_edit 143 = .ok (.getfield 7, 3) := by decide +kernel
theorem d_MO_edit_146 : decode b_MO_edit 146 = .ok (.iload_n 3, 1) := by decide +kernel
theorem d_MO_edit_147 : decode b_MO_edit 147 = .ok (.baload, 1) := by decide +kernel
theorem d_MO_edit_148 : decode b_MO_edit 148 = .ok (.bipush 27, 2) := by decide +kernel
theorem d_MO_edit_150 : decode b_MO_edit 150 = .ok (.if_icmp .ne 7, 3) := by decide +kernel
theorem d_MO_edit_153 : decode b_MO_edit 153 = .ok (.iconst 1, 1) := by decide +kernel
theorem d_MO_edit_154 : decode b_MO_edit 154 = .ok (.goto 4, 3) := by decide +kernel
theorem d_MO_edit_157 : decode b_MO_edit 157 = .ok (.iconst 0, 1) := by decide +kernel
theorem d_MO_edit_158 : decode b_MO_edit 158 = .ok (.istore_n 2, 1) := by decide +kernel
theorem d_MO_edit_159 : decode b_MO_edit 159 = .ok (.aload_n 0, 1) := by decide +kernel
theorem d_MO_edit_160 : decode b_MO_edit 160 = .ok (.getfield 7, 3) := by decide +kernel
theorem d_MO_edit_163 : decode b_MO_edit 163 = .ok (.iload_n 3, 1) := by decide +kernel
theorem d_MO_edit_164 : decode b_MO_edit 164 = .ok (.iload_n 2, 1) := by decide +kernel
theorem d_MO_edit_165 : decode b_MO_edit 165 = .ok (.ifCond .eq 7, 3) := by decide +kernel
theorem d_MO_edit_168 : decode b_MO_edit 168 = .ok (.iconst 0, 1) := by decide +kernel
theorem d_MO_edit_169 : decode b_MO_edit 169 = .ok (.goto 9, 3) := by decide +kernel
theorem d_MO_edit_172 : decode b_MO_edit 172 = .ok (.aload_n 0, 1) := by decide +kernel
theorem d_MO_edit_173 : decode b_MO_edit 173 = .ok (.getfield 7, 3) := by decide +kernel
theorem d_MO_edit_176 : decode b_MO_edit 176 = .ok (.iload_n 3, 1) := by decide +kernel
theorem d_MO_edit_177 : decode b_MO_edit 177 = .ok (.baload, 1) := by decide +kernel
theorem d_MO_edit_178 : decode b_MO_edit 178 = .ok (.bastore, 1) := by decide +kernel
theorem d_MO_edit_179 : decode b_MO_edit 179 = .ok (.iinc 3 1, 3) := by decide +kernel
theorem d_MO_edit_182 : decode b_MO_edit 182 = .ok (.goto (-72), 3) := by decide +kernel
theorem d_MO_edit_185 : decode b_MO_edit 185 = .ok (.aload_n 0, 1) := by decide +kernel
theorem d_MO_edit_186 : decode b_MO_edit 186 = .ok (.dup, 1) := by decide +kernel
theorem d_MO_edit_187 : decode b_MO_edit 187 = .ok (.getfield 85, 3) := by decide +kernel
theorem d_MO_edit_190 : decode b_MO_edit 190 = .ok (.iload_n 1, 1) := by decide +kernel
theorem d_MO_edit_191 : decode b_MO_edit 191 = .ok (.isub, 1) := by decide +kernel
theorem d_MO_edit_192 : decode b_MO_edit 192 = .ok (.putfield 85, 3) := by decide +kernel
theorem d_MO_edit_195 : decode b_MO_edit 195 = .ok (.aload_n 0, 1) := by decide +kernel
theorem d_MO_edit_196 : decode b_MO_edit 196 = .ok (.dup, 1) := by decide +kernel
theorem d_MO_edit_197 : decode b_MO_edit 197 = .ok (.getfield 75, 3) := by decide +kernel
theorem d_MO_edit_200 : decode b_MO_edit 200 = .ok (.iconst 1, 1) := by decide +kernel
theorem d_MO_edit_201 : decode b_MO_edit 201 = .ok (.iadd, 1) := by decide +kernel
theorem d_MO_edit_202 : decode b_MO_edit 202 = .ok (.putfield 75, 3) := by decide +kernel
theorem d_MO_edit_205 : decode b_MO_edit 205 = .ok (.iconst 0, 1) := by decide +kernel
theorem d_MO_edit_206 : decode b_MO_edit 206 = .ok (.ireturn, 1) := by decide +kernel
theorem d_MO_modifier_0 : decode b_MO_modifier 0 = .ok (.aload_n 0, 1) := by decide +kernel
theorem d_MO_modifier_1 : decode b_MO_modifier 1 = .ok (.getfield 7, 3) := by decide +kernel
theorem d_MO_modifier_4 : decode b_MO_modifier 4 = .ok (.aload_n 0, 1) := by decide +kernel
theorem d_MO_modifier_5 : decode b_MO_modifier 5 = .ok (.getfield 125, 3) := by decide +kernel
theorem d_MO_modifier_8 : decode b_MO_modifier 8 = .ok (.aload_n 0, 1) := by decide +kernel
theorem d_MO_modifier_9 : decode b_MO_modifier 9 = .ok (.getfield 119, 3) := by decide +kernel
theorem d_MO_modifier_12 : decode b_MO_modifier 12 = .ok (.iadd, 1) := by decide +kernel
theorem d_MO_modifier_13 : decode b_MO_modifier 13 = .ok (.iconst 1, 1) := by decide +kernel
theorem d_MO_modifier_14 : decode b_MO_modifier 14 = .ok (.isub, 1) := by decide +kernel
theorem d_MO_modifier_15 : decode b_MO_modifier 15 = .ok (.baload, 1) := by decide +kernel
theorem d_MO_modifier_16 : decode b_MO_modifier 16 = .ok (.ireturn, 1) := by decide +kernel
theorem d_MO_branch_0 : decode b_MO_branch 0 = .ok (.aload_n 0, 1) := by decide +kernel
theorem d_MO_branch_1 : decode b_MO_branch 1 = .ok (.getfield 119, 3) := by decide +kernel
theorem d_MO_branch_4 : decode b_MO_branch 4 = .ok (.iconst 5, 1) := by decide +kernel
theorem d_MO_branch_5 : decode b_MO_branch 5 = .ok (.if_icmp .ge 7, 3) := by decide +kernel
theorem d_MO_branch_8 : decode b_MO_branch 8 = .ok (.iconst 1, 1) := by decide +kernel
theorem d_MO_branch_9 : decode b_MO_branch 9 = .ok (.goto 4, 3) := by decide +kernel
theorem d_MO_branch_12 : decode b_MO_branch 12 = .ok (.iconst 0, 1) := by decide +kernel
theorem d_MO_branch_13 : decode b_MO_branch 13 = .ok (.istore_n 1, 1) := by decide +kernel
theorem d_MO_branch_14 : decode b_MO_branch 14 = .ok (.aload_n 0, 1) := by decide +kernel
theorem d_MO_branch_15 : decode b_MO_branch 15 = .ok (.getfield 119, 3) := by decide +kernel
theorem d_MO_branch_18 : decode b_MO_branch 18 = .ok (.iconst 5, 1) := by decide +kernel
theorem d_MO_branch_19 : decode b_MO_branch 19 = .ok (.if_icmp .eq 12, 3) := by decide +kernel
theorem d_MO_branch_22 : decode b_MO_branch 22 = .ok (.aload_n 0, 1) := by decide +kernel
theorem d_MO_branch_23 : decode b_MO_branch 23 = .ok (.getfield 119, 3) := by decide +kernel
theorem d_MO_branch_26 : decode b_MO_branch 26 = .ok (.bipush 8, 2) := by decide +kernel
theorem d_MO_branch_28 : decode b_MO_branch 28 = .ok (.if_icmp .ne 10, 3) := by decide +kernel
theorem d_MO_branch_31 : decode b_MO_branch 31 = .ok (.aload_n 0, 1) := by decide +kernel
theorem d_MO_branch_32 : decode b_MO_branch 32 = .ok (.invokevirtual 128, 3) := by decide +kernel
theorem d_MO_branch_35 : decode b_MO_branch 35 = .ok (.goto 4, 3) := by decide +kernel
theorem d_MO_branch_38 : decode b_MO_branch 38 = .ok (.iconst (-1), 1) := by decide +kernel
theorem d_MO_branch_39 : decode b_MO_branch 39 = .ok (.istore_n 2, 1) := by decide +kernel
theorem d_MO_branch_40 : decode b_MO_branch 40 = .ok (.aload_n 0, 1) := by decide +kernel
theorem d_MO_branch_41 : decode b_MO_branch 41 = .ok (.getfield 119, 3) := by decide +kernel
theorem d_MO_branch_44 : decode b_MO_branch 44 = .ok (.iconst 5, 1) := by decide +kernel
theorem d_MO_branch_45 : decode b_MO_branch 45 = .ok (.if_icmp .ne 113, 3) := by decide +kernel
theorem d_MO_branch_48 : decode b_MO_branch 48 = .ok (.iload_n 2, 1) := by decide +kernel
theorem d_MO_branch_49 : decode b_MO_branch 49 = .ok (.ifCond .eq 81, 3) := by decide +kernel
theorem d_MO_branch_52 : decode b_MO_branch 52 = .ok (.iload_n 2, 1) := by decide +kernel
theorem d_MO_branch_53 : decode b_MO_branch 53 = .ok (.bipush 17, 2) := by decide +kernel
theorem d_MO_branch_55 : decode b_MO_branch 55 = .ok (.if_icmp .ne 10, 3) := by decide +kernel
theorem d_MO_branch_58 : decode b_MO_branch 58 = .ok (.aload_n 0, 1) := by decide +kernel
theorem d_MO_branch_59 : decode b_MO_branch 59 = .ok (.getfield 113, 3) := by decide +kernel
theorem d_MO_branch_62 : decode b_MO_branch 62 = .ok (.ifCond .ne 68, 3) := by decide +kernel
theorem d_MO_branch_65 : decode b_MO_branch 65 = .ok (.iload_n 2, 1) := by decide +kernel
theorem d_MO_branch_66 : decode b_MO_branch 66 = .ok (.bipush 18, 2) := by decide +kernel
theorem d_MO_branch_68 : decode b_MO_branch 68 = .ok (.if_icmp .ne 10, 3) := by decide +kernel
theorem d_MO_branch_71 : decode b_MO_branch 71 = .ok (.aload_n 0, 1) := by decide +kernel
theorem d_MO_branch_72 : decode b_MO_branch 72 = .ok (.getfield 113, 3) := by decide +kernel
theorem d_MO_branch_75 : decode b_MO_branch 75 = .ok (.ifCond .eq 55, 3) := by decide +kernel
theorem d_MO_branch_78 : decode b_MO_branch 78 = .ok (.iload_n 2, 1) := by decide +kernel
theorem d_MO_branch_79 : decode b_MO_branch 79 = .ok (.bipush 19, 2) := by decide +kernel
theorem d_MO_branch_81 : decode b_MO_branch 81 = .ok (.if_icmp .ne 10, 3) := by decide +kernel
theorem d_MO_branch_84 : decode b_MO_branch 84 = .ok (.aload_n 0, 1) := by decide +kernel
theorem d_MO_branch_85 : decode b_MO_branch 85 = .ok (.getfield 113, 3) := by decide +kernel
theorem d_MO_branch_88 : decode b_MO_branch 88 = .ok (.ifCond .lt 42, 3) := by decide +kernel
theorem d_MO_branch_91 : decode b_MO_branch 91 = .ok (.iload_n 2, 1) := by decide +kernel
theorem d_MO_branch_92 : decode b_MO_branch 92 = .ok (.bipush 20, 2) := by decide +kernel
theorem d_MO_branch_94 : decode b_MO_branch 94 = .ok (.if_icmp .ne 10, 3) := by decide +kernel
theorem d_MO_branch_97 : decode b_MO_branch 97 = .ok (.aload_n 0, 1) := by decide +kernel
theorem d_MO_branch_98 : decode b_MO_branch 98 = .ok (.getfield 113, 3) := by decide +kernel
theorem d_MO_branch_101 : decode b_MO_branch 101 = .ok (.ifCond .gt 29, 3) := by decide +kernel
theorem d_MO_branch_104 : decode b_MO_branch 104 = .ok (.iload_n 2, 1) := by decide +kernel
theorem d_MO_branch_105 : decode b_MO_branch 105 = .ok (.bipush 25, 2) := by decide +kernel
theorem d_MO_branch_107 : decode b_MO_branch 107 = .ok (.if_icmp .ne 10, 3) := by decide +kernel
theorem d_MO_branch_110 : decode b_MO_branch 110 = .ok (.aload_n 0, 1) := by decide +kernel
theorem d_MO_branch_111 : decode b_MO_branch 111 = .ok (.getfield 98, 3) := by decide +kernel
theorem d_MO_branch_114 : decode b_MO_branch 114 = .ok (.ifCond .ne 16, 3) := by decide +kernel
theorem d_MO_branch_117 : decode b_MO_branch 117 = .ok (.iload_n 2, 1) := by decide +kernel
theorem d_MO_branch_118 : decode b_MO_branch 118 = .ok (.bipush 49, 2) := by decide +kernel
theorem d_MO_branch_120 : decode b_MO_branch 120 = .ok (.if_icmp .ne 14, 3) := by decide +kernel
theorem d_MO_branch_123 : decode b_MO_branch 123 = .ok (.aload_n 0, 1) := by decide +kernel
theorem d_MO_branch_124 : decode b_MO_branch 124 = .ok (.getfield 131, 3) := by decide +kernel
theorem d_MO_branch_127 : decode b_MO_branch 127 = .ok (.ifCond .eq 7, 3) := by decide +kernel
theorem d_MO_branch_130 : decode b_MO_branch 130 = .ok (.iconst 1, 1) := by decide +kernel
theorem d_MO_branch_131 : decode b_MO_branch 131 = .ok (.goto 4, 3) := by decide +kernel
theorem d_MO_branch_134 : decode b_MO_branch 134 = .ok (.iconst 0, 1) := by decide +kernel
theorem d_MO_branch_135 : decode b_MO_branch 135 = .ok (.istore_n 1, 1) := by decide +kernel
theorem d_MO_branch_136 : decode b_MO_branch 136 = .ok (.aload_n 0, 1) := by decide +kernel
theorem d_MO_branch_137 : decode b_MO_branch 137 = .ok (.aload_n 0, 1) := by decide +kernel
theorem d_MO_branch_138 : decode b_MO_branch 138 = .ok (.getfield 98, 3) := by decide +kernel
theorem d_MO_branch_141 : decode b_MO_branch 141 = .ok (.ifCond .eq 13, 3) := by decide +kernel
theorem d_MO_branch_144 : decode b_MO_branch 144 = .ok (.iload_n 2, 1) := by decide +kernel
theorem d_MO_branch_145 : decode b_MO_branch 145 = .ok (.bipush 25, 2) := by decide +kernel
theorem d_MO_branch_147 : decode b_MO_branch 147 = .ok (.if_icmp .eq 7, 3) := by decide +kernel
theorem d_MO_branch_150 : decode b_MO_branch 150 = .ok (.iconst 1, 1) := by decide +kernel
theorem d_MO_branch_151 : decode b_MO_branch 151 = .ok (.goto 4, 3) := by decide +kernel
theorem d_MO_branch_154 : decode b_MO_branch 154 = .ok (.iconst 0, 1) := by decide +kernel
theorem d_MO_branch_155 : decode b_MO_branch 155 = .ok (.putfield 98, 3) := by decide +kernel
theorem d_MO_branch_158 : decode b_MO_branch 158 = .ok (.aload_n 0, 1) := by decide +kernel
theorem d_MO_branch_159 : decode b_MO_branch 159 = .ok (.getfield 119, 3) := by decide +kernel
theorem d_MO_branch_162 : decode b_MO_branch 162 = .ok (.bipush 8, 2) := by decide +kernel
theorem d_MO_branch_164 : decode b_MO_branch 164 = .ok (.if_icmp .ne 45, 3) := by decide +kernel
theorem d_MO_branch_167 : decode b_MO_branch 167 = .ok (.aload_n 0, 1) := by decide +kernel
theorem d_MO_branch_168 : decode b_MO_branch 168 = .ok (.aload_n 0, 1) := by decide +kernel
theorem d_MO_branch_169 : decode b_MO_branch 169 = .ok (.getfield 75, 3) := by decide +kernel
theorem d_MO_branch_172 : decode b_MO_branch 172 = .ok (.invokevirtual 46, 3) := by decide +kernel
theorem d_MO_branch_175 : decode b_MO_branch 175 = .ok (.ifCond .ne 5, 3) := by decide +kernel
theorem d_MO_branch_178 : decode b_MO_branch 178 = .ok (.iconst 2, 1) := by decide +kernel
theorem d_MO_branch_179 : decode b_MO_branch 179 = .ok (.ireturn, 1) := by decide +kernel
theorem d_MO_branch_180 : decode b_MO_branch 180 = .ok (.aload_n 0, 1) := by decide +kernel
theorem d_MO_branch_181 : decode b_MO_branch 181 = .ok (.getfield 7, 3) := by decide +kernel
theorem d_MO_branch_184 : decode b_MO_branch 184 = .ok (.aload_n 0, 1) := by decide +kernel
theorem d_MO_branch_185 : decode b_MO_branch 185 = .ok (.getfield 75, 3) := by decide +kernel
theorem d_MO_branch_188 : decode b_MO_branch 188 = .ok (.baload, 1) := by decide +kernel
theorem d_MO_branch_189 : decode b_MO_branch 189 = .ok (.iload_n 2, 1) := by decide +kernel
theorem d_MO_branch_190 : decode b_MO_branch 190 = .ok (.if_icmp .ne 7, 3) := by decide +kernel
theorem d_MO_branch_193 : decode b_MO_branch 193 = .ok (.iconst 1, 1) := by decide +kernel
theorem d_MO_branch_194 : decode b_MO_branch 194 = .ok (.goto 4, 3) := by decide +kernel
theorem d_MO_branch_197 : decode b_MO_branch 197 = .ok (.iconst 0, 1) := by decide +kernel
theorem d_MO_branch_198 : decode b_MO_branch 198 = .ok (.istore_n 1, 1) := by decide +kernel
theorem d_MO_branch_199 : decode b_MO_branch 199 = .ok (.aload_n 0, 1) := by decide +kernel
theorem d_MO_branch_200 : decode b_MO_branch 200 = .ok (.dup, 1) := by decide +kernel
theorem d_MO_branch_201 : decode b_MO_branch 201 = .ok (.getfield 75, 3) := by decide +kernel
theorem d_MO_branch_204 : decode b_MO_branch 204 = .ok (.iconst 1, 1) := by decide +kernel
theorem d_MO_branch_205 : decode b_MO_branch 205 = .ok (.isub, 1) := by decide +kernel
theorem d_MO_branch_206 : decode b_MO_branch 206 = .ok (.putfield 75, 3) := by decide +kernel
theorem d_MO_branch_209 : decode b_MO_branch 209 = .ok (.iload_n 1, 1) := by decide +kernel
theorem d_MO_branch_210 : decode b_MO_branch 210 = .ok (.ifCond .eq 7, 3) := by decide +kernel
theorem d_MO_branch_213 : decode b_MO_branch 213 = .ok (.aload_n 0, 1) := by decide +kernel
theorem d_MO_branch_214 : decode b_MO_branch 214 = .ok (.invokevirtual 122, 3) := by decide +kernel
theorem d_MO_branch_217 : decode b_MO_branch 217 = .ok (.iconst 0, 1) := by decide +kernel
theorem d_MO_branch_218 : decode b_MO_branch 218 = .ok (.ireturn, 1) := by decide +kernel
theorem d_MO_branchMark_0 : decode b_MO_branchMark 0 = .ok (.aload_n 0, 1) := by decide +kernel
theorem d_MO_branchMark_1 : decode b_MO_branchMark 1 = .ok (.aload_n 0, 1) := by decide +kernel
theorem d_MO_branchMark_2 : decode b_MO_branchMark 2 = .ok (.getfield 75, 3) := by decide +kernel
theorem d_MO_branchMark_5 : decode b_MO_branchMark 5 = .ok (.invokevirtual 46, 3) := by decide +kernel
theorem d_MO_branchMark_8 : decode b_MO_branchMark 8 = .ok (.ifCond .ne 5, 3) := by decide +kernel
theorem d_MO_branchMark_11 : decode b_MO_branchMark 11 = .ok (.iconst 2, 1) := by decide +kernel
theorem d_MO_branchMark_12 : decode b_MO_branchMark 12 = .ok (.ireturn, 1) := by decide +kernel
theorem d_MO_branchMark_13 : decode b_MO_branchMark 13 = .ok (.aload_n 0, 1) := by decide +kernel
theorem d_MO_branchMark_14 : decode b_MO_branchMark 14 = .ok (.invokevirtual 128, 3) := by decide +kernel
theorem d_MO_branchMark_17 : decode b_MO_branchMark 17 = .ok (.istore_n 1, 1) := by decide +kernel
theorem d_MO_branchMark_18 : decode b_MO_branchMark 18 = .ok (.iload_n 1, 1) := by decide +kernel
theorem d_MO_branchMark_19 : decode b_MO_branchMark 19 = .ok (.iconst 1, 1) := by decide +kernel
theorem d_MO_branchMark_20 : decode b_MO_branchMark 20 = .ok (.if_icmp .eq 26, 3) := by decide +kernel
theorem d_MO_branchMark_23 : decode b_MO_branchMark 23 = .ok (.iload_n 1, 1) := by decide +kernel
theorem d_MO_branchMark_24 : decode b_MO_branchMark 24 = .ok (.iconst 3, 1) := by decide +kernel
theorem d_MO_branchMark_25 : decode b_MO_branchMark 25 = .ok (.if_icmp .eq 21, 3) := by decide +kernel
theorem d_MO_branchMark_28 : decode b_MO_branchMark 28 = .ok (.iload_n 1, 1) := by decide +kernel
theorem d_MO_branchMark_29 : decode b_MO_branchMark 29 = .ok (.bipush 51, 2) := by decide +kernel
theorem d_MO_branchMark_31 : decode b_MO_branchMark 31 = .ok (.if_icmp .eq 15, 3) := by decide +kernel
theorem d_MO_branchMark_34 : decode b_MO_branchMark 34 = .ok (.iload_n 1, 1) := by decide +kernel
theorem d_MO_branchMark_35 : decode b_MO_branchMark 35 = .ok (.bipush 35, 2) := by decide +kernel
theorem d_MO_branchMark_37 : decode b_MO_branchMark 37 = .ok (.if_icmp .eq 9, 3) := by decide +kernel
theorem d_MO_branchMark_40 : decode b_MO_branchMark 40 = .ok (.iload_n 1, 1) := by decide +kernel
theorem d_MO_branchMark_41 : decode b_MO_branchMark 41 = .ok (.bipush 19, 2) := by decide +kernel
theorem d_MO_branchMark_43 : decode b_MO_branchMark 43 = .ok (.if_icmp .ne 7, 3) := by decide +kernel
theorem d_MO_branchMark_46 : decode b_MO_branchMark 46 = .ok (.iconst 1, 1) := by decide +kernel
theorem d_MO_branchMark_47 : decode b_MO_branchMark 47 = .ok (.goto 4, 3) := by decide +kernel
theorem d_MO_branchMark_50 : decode b_MO_branchMark 50 = .ok (.iconst 0, 1) := by decide +kernel
theorem d_MO_branchMark_51 : decode b_MO_branchMark 51 = .ok (.istore_n 2, 1) := by decide +kernel
theorem d_MO_branchMark_52 : decode b_MO_branchMark 52 = .ok (.iload_n 1, 1) := by decide +kernel
theorem d_MO_branchMark_53 : decode b_MO_branchMark 53 = .ok (.iconst 2, 1) := by decide +kernel
theorem d_MO_branchMark_54 : decode b_MO_branchMark 54 = .ok (.if_icmp .eq 44, 3) := by decide +kernel
theorem d_MO_branchMark_57 : decode b_MO_branchMark 57 = .ok (.iload_n 1, 1) := by decide +kernel
theorem d_MO_branchMark_58 : decode b_MO_branchMark 58 = .ok (.bipush 50, 2) := by decide +kernel
theorem d_MO_branchMark_60 : decode b_MO_branchMark 60 = .ok (.if_icmp .eq 38, 3) := by decide +kernel
theorem d_MO_branchMark_63 : decode b_MO_branchMark 63 = .ok (.iload_n 1, 1) := by decide +kernel
theorem d_MO_branchMark_64 : decode b_MO_branchMark 64 = .ok (.bipush 34, 2) := by decide +kernel
theorem d_MO_branchMark_66 : decode b_MO_branchMark 66 = .ok (.if_icmp .eq 32, 3) := by decide +kernel
theorem d_MO_branchMark_69 : decode b_MO_branchMark 69 = .ok (.iload_n 1, 1) := by decide +kernel
theorem d_MO_branchMark_70 : decode b_MO_branchMark 70 = .ok (.bipush 18, 2) := by decide +kernel
theorem d_MO_branchMark_72 : decode b_MO_branchMark 72 = .ok (.if_icmp .eq 26, 3) := by decide +kernel
theorem d_MO_branchMark_75 : decode b_MO_branchMark 75 = .ok (.iload_n 1, 1) := by decide +kernel
theorem d_MO_branchMark_76 : decode b_MO_branchMark 76 = .ok (.iconst 3, 1) := by decide +kernel
theorem d_MO_branchMark_77 : decode b_MO_branchMark 77 = .ok (.if_icmp .eq 21, 3) := by decide +kernel
theorem d_MO_branchMark_80 : decode b_MO_branchMark 80 = .ok (.iload_n 1, 1) := by decide +kernel
theorem d_MO_branchMark_81 : decode b_MO_branchMark 81 = .ok (.bipush 51, 2) := by decide +kernel
theorem d_MO_branchMark_83 : decode b_MO_branchMark 83 = .ok (.if_icmp .eq 15, 3) := by decide +kernel
theorem d_MO_branchMark_86 : decode b_MO_branchMark 86 = .ok (.iload_n 1, 1) := by decide +kernel
theorem d_MO_branchMark_87 : decode b_MO_branchMark 87 = .ok (.bipush 35, 2) := by decide +kernel
theorem d_MO_branchMark_89 : decode b_MO_branchMark 89 = .ok (.if_icmp .eq 9, 3) := by decide +kernel
theorem d_MO_branchMark_92 : decode b_MO_branchMark 92 = .ok (.iload_n 1, 1) := by decide +kernel
theorem d_MO_branchMark_93 : decode b_MO_branchMark 93 = .ok (.bipush 19, 2) := by decide +kernel
theorem d_MO_branchMark_95 : decode b_MO_branchMark 95 = .ok (.if_icmp .ne 7, 3) := by decide +kernel
theorem d_MO_branchMark_98 : decode b_MO_branchMark 98 = .ok (.iconst 1, 1) := by decide +kernel
theorem d_MO_branchMark_99 : decode b_MO_branchMark 99 = .ok (.goto 4, 3) := by decide +kernel
theorem d_MO_branchMark_102 : decode b_MO_branchMark 102 = .ok (.iconst 0, 1) := by decide +kernel
theorem d_MO_branchMark_103 : decode b_MO_branchMark 103 = .ok (.istore_n 3, 1) := by decide +kernel
theorem d_MO_branchMark_104 : decode b_MO_branchMark 104 = .ok (.iload_n 2, 1) := by decide +kernel
theorem d_MO_branchMark_105 : decode b_MO_branchMark 105 = .ok (.ifCond .eq 15, 3) := by decide +kernel
theorem d_MO_branchMark_108 : decode b_MO_branchMark 108 = .ok (.aload_n 0, 1) := by decide +kernel
theorem d_MO_branchMark_109 : decode b_MO_branchMark 109 = .ok (.getfield 13, 3) := by decide +kernel
theorem d_MO_branchMark_112 : decode b_MO_branchMark 112 = .ok (.aload_n 0, 1) := by decide +kernel
theorem d_MO_branchMark_113 : decode b_MO_branchMark 113 = .ok (.getfield 75, 3) := by decide +kernel
theorem d_MO_branchMark_116 : decode b_MO_branchMark 116 = .ok (.baload, 1) := by decide +kernel
theorem d_MO_branchMark_117 : decode b_MO_branchMark 117 = .ok (.ifCond .ne 26, 3) := by decide +kernel
theorem d_MO_branchMark_120 : decode b_MO_branchMark 120 = .ok (.iload_n 3, 1) := by decide +kernel
theorem d_MO_branchMark_121 : decode b_MO_branchMark 121 = .ok (.ifCond .eq 26, 3) := by decide +kernel
theorem d_MO_branchMark_124 : decode b_MO_branchMark 124 = .ok (.aload_n 0, 1) := by decide +kernel
theorem d_MO_branchMark_125 : decode b_MO_branchMark 125 = .ok (.getfield 7, 3) := by decide +kernel
theorem d_MO_branchMark_128 : decode b_MO_branchMark 128 = .ok (.aload_n 0, 1) := by decide +kernel
theorem d_MO_branchMark_129 : decode b_MO_branchMark 129 = .ok (.getfield 75, 3) := by decide +kernel
theorem d_MO_branchMark_132 : decode b_MO_branchMark 132 = .ok (.baload, 1) := by decide +kernel
theorem d_MO_branchMark_133 : decode b_MO_branchMark 133 = .ok (.invokestatic 68, 3) := by decide +kernel
theorem d_MO_branchMark_136 : decode b_MO_branchMark 136 = .ok (.iload_n 1, 1) := by decide +kernel
theorem d_MO_branchMark_137 : decode b_MO_branchMark 137 = .ok (.invokestatic 68, 3) := by decide +kernel
theorem d_MO_branchMark_140 : decode b_MO_branchMark 140 = .ok (.if_icmp .ne 7, 3) := by decide +kernel
theorem d_MO_branchMark_143 : decode b_MO_branchMark 143 = .ok (.iconst 1, 1) := by decide +kernel
theorem d_MO_branchMark_144 : decode b_MO_branchMark 144 = .ok (.goto 4, 3) := by decide +kernel
theorem d_MO_branchMark_147 : decode b_MO_branchMark 147 = .ok (.iconst 0, 1) := by decide +kernel
theorem d_MO_branchMark_148 : decode b_MO_branchMark 148 = .ok (.istore 4, 2) := by decide +kernel
theorem d_MO_branchMark_150 : decode b_MO_branchMark 150 = .ok (.aload_n 0, 1) := by decide +kernel
theorem d_MO_branchMark_151 : decode b_MO_branchMark 151 = .ok (.dup, 1) := by decide +kernel
theorem d_MO_branchMark_152 : decode b_MO_branchMark 152 = .ok (.getfield 75, 3) := by decide +kernel
theorem d_MO_branchMark_155 : decode b_MO_branchMark 155 = .ok (.iconst 1, 1) := by decide +kernel
theorem d_MO_branchMark_156 : decode b_MO_branchMark 156 = .ok (.isub, 1) := by decide +kernel
theorem d_MO_branchMark_157 : decode b_MO_branchMark 157 = .ok (.putfield 75, 3) := by decide +kernel
theorem d_MO_branchMark_160 : decode b_MO_branchMark 160 = .ok (.iload 4, 2) := by decide +kernel
theorem d_MO_branchMark_162 : decode b_MO_branchMark 162 = .ok (.ifCond .eq 7, 3) := by decide +kernel
theorem d_MO_branchMark_165 : decode b_MO_branchMark 165 = .ok (.aload_n 0, 1) := by decide +kernel
theorem d_MO_branchMark_166 : decode b_MO_branchMark 166 = .ok (.invokevirtual 122, 3) := by decide +kernel
theorem d_MO_branchMark_169 : decode b_MO_branchMark 169 = .ok (.iconst 0, 1) := by decide +kernel
theorem d_MO_branchMark_170 : decode b_MO_branchMark 170 = .ok (.ireturn, 1) := by decide +kernel
theorem d_MO_readCard_0 : decode b_MO_readCard 0 = .ok (.aload_n 0, 1) := by decide +kernel
theorem d_MO_readCard_1 : decode b_MO_readCard 1 = .ok (.getfield 62, 3) := by decide +kernel
theorem d_MO_readCard_4 : decode b_MO_readCard 4 = .ok (.aload_n 0, 1) := by decide +kernel
theorem d_MO_readCard_5 : decode b_MO_readCard 5 = .ok (.getfield 59, 3) := by decide +kernel
theorem d_MO_readCard_8 : decode b_MO_readCard 8 = .ok (.if_icmp .ne 5, 3) := by decide +kernel
theorem d_MO_readCard_11 : decode b_MO_readCard 11 = .ok (.iconst 4, 1) := by decide +kernel
theorem d_MO_readCard_12 : decode b_MO_readCard 12 = .ok (.ireturn, 1) := by decide +kernel
theorem d_MO_readCard_13 : decode b_MO_readCard 13 = .ok (.iconst 0, 1) := by decide +kernel
theorem d_MO_readCard_14 : decode b_MO_readCard 14 = .ok (.istore_n 1, 1) := by decide +kernel
theorem d_MO_readCard_15 : decode b_MO_readCard 15 = .ok (.iload_n 1, 1) := by decide +kernel
theorem d_MO_readCard_16 : decode b_MO_readCard 16 = .ok (.bipush 80, 2) := by decide +kernel
theorem d_MO_readCard_18 : decode b_MO_readCard 18 = .ok (.if_icmp .ge 31, 3) := by decide +kernel
theorem d_MO_readCard_21 : decode b_MO_readCard 21 = .ok (.aload_n 0, 1) := by decide +kernel
theorem d_MO_readCard_22 : decode b_MO_readCard 22 = .ok (.getfield 7, 3) := by decide +kernel
theorem d_MO_readCard_25 : decode b_MO_readCard 25 = .ok (.iconst 1, 1) := by decide +kernel
theorem d_MO_readCard_26 : decode b_MO_readCard 26 = .ok (.iload_n 1, 1) := by decide +kernel
theorem d_MO_readCard_27 : decode b_MO_readCard 27 = .ok (.iadd, 1) := by decide +kernel
theorem d_MO_readCard_28 : decode b_MO_readCard 28 = .ok (.aload_n 0, 1) := by decide +kernel
theorem d_MO_readCard_29 : decode b_MO_readCard 29 = .ok (.getfield 20, 3) := by decide +kernel
theorem d_MO_readCard_32 : decode b_MO_readCard 32 = .ok (.bipush 80, 2) := by decide +kernel
theorem d_MO_readCard_34 : decode b_MO_readCard 34 = .ok (.aload_n 0, 1) := by decide +kernel
theorem d_MO_readCard_35 : decode b_MO_readCard 35 = .ok (.getfield 62, 3) := by decide +kernel
theorem d_MO_readCard_38 : decode b_MO_readCard 38 = .ok (.imul, 1) := by decide +kernel
theorem d_MO_readCard_39 : decode b_MO_readCard 39 = .ok (.iload_n 1, 1) := by decide +kernel
theorem d_MO_readCard_40 : decode b_MO_readCard 40 = .ok (.iadd, 1) := by decide +kernel
theorem d_MO_readCard_41 : decode b_MO_readCard 41 = .ok (.baload, 1) := by decide +kernel
theorem d_MO_readCard_42 : decode b_MO_readCard 42 = .ok (.bastore, 1) := by decide +kernel
theorem d_MO_readCard_43 : decode b_MO_readCard 43 = .ok (.iinc 1 1, 3) := by decide +kernel
theorem d_MO_readCard_46 : decode b_MO_readCard 46 = .ok (.goto (-31), 3) := by decide +kernel
theorem d_MO_readCard_49 : decode b_MO_readCard 49 = .ok (.aload_n 0, 1) := by decide +kernel
theorem d_MO_readCard_50 : decode b_MO_readCard 50 = .ok (.dup, 1) := by decide +kernel
theorem d_MO_readCard_51 : decode b_MO_readCard 51 = .ok (.getfield 62, 3) := by decide +kernel
theorem d_MO_readCard_54 : decode b_MO_readCard 54 = .ok (.iconst 1, 1) := by decide +kernel
theorem d_MO_readCard_55 : decode b_MO_readCard 55 = .ok (.iadd, 1) := by decide +kernel
theorem d_MO_readCard_56 : decode b_MO_readCard 56 = .ok (.putfield 62, 3) := by decide +kernel
theorem d_MO_readCard_59 : decode b_MO_readCard 59 = .ok (.aload_n 0, 1) := by decide +kernel
theorem d_MO_readCard_60 : decode b_MO_readCard 60 = .ok (.aload_n 0, 1) := by decide +kernel
theorem d_MO_readCard_61 : decode b_MO_readCard 61 = .ok (.getfield 62, 3) := by decide +kernel
theorem d_MO_readCard_64 : decode b_MO_readCard 64 = .ok (.aload_n 0, 1) := by decide +kernel
theorem d_MO_readCard_65 : decode b_MO_readCard 65 = .ok (.getfield 59, 3) := by decide +kernel
theorem d_MO_readCard_68 : decode b_MO_readCard 68 = .ok (.if_icmp .ne 7, 3) := by decide +kernel
theorem d_MO_readCard_71 : decode b_MO_readCard 71 = .ok (.iconst 1, 1) := by decide +kernel
theorem d_MO_readCard_72 : decode b_MO_readCard 72 = .ok (.goto 4, 3) := by decide +kernel
theorem d_MO_readCard_75 : decode b_MO_readCard 75 = .ok (.iconst 0, 1) := by decide +kernel
theorem d_MO_readCard_76 : decode b_MO_readCard 76 = .ok (.putfield 131, 3) := by decide +kernel
theorem d_MO_readCard_79 : decode b_MO_readCard 79 = .ok (.aload_n 0, 1) := by decide +kernel
theorem d_MO_readCard_80 : decode b_MO_readCard 80 = .ok (.bipush 81, 2) := by decide +kernel
theorem d_MO_readCard_82 : decode b_MO_readCard 82 = .ok (.putfield 75, 3) := by decide +kernel
theorem d_MO_readCard_85 : decode b_MO_readCard 85 = .ok (.iconst 0, 1) := by decide +kernel
theorem d_MO_readCard_86 : decode b_MO_readCard 86 = .ok (.ireturn, 1) := by decide +kernel
theorem d_MO_print_0 : decode b_MO_print 0 = .ok (.aload_n 0, 1) := by decide +kernel
theorem d_MO_print_1 : decode b_MO_print 1 = .ok (.getfield 134, 3) := by decide +kernel
theorem d_MO_print_4 : decode b_MO_print 4 = .ok (.bipush 40, 2) := by decide +kernel
theorem d_MO_print_6 : decode b_MO_print 6 = .ok (.if_icmp .ne 5, 3) := by decide +kernel
theorem d_MO_print_9 : decode b_MO_print 9 = .ok (.iconst 5, 1) := by decide +kernel
theorem d_MO_print_10 : decode b_MO_print 10 = .ok (.ireturn, 1) := by decide +kernel
theorem d_MO_print_11 : decode b_MO_print 11 = .ok (.iconst 0, 1) := by decide +kernel
theorem d_MO_print_12 : decode b_MO_print 12 = .ok (.istore_n 1, 1) := by decide +kernel
theorem d_MO_print_13 : decode b_MO_print 13 = .ok (.iload_n 1, 1) := by decide +kernel
theorem d_MO_print_14 : decode b_MO_print 14 = .ok (.sipush 132, 3) := by decide +kernel
theorem d_MO_print_17 : decode b_MO_print 17 = .ok (.if_icmp .ge 34, 3) := by decide +kernel
theorem d_MO_print_20 : decode b_MO_print 20 = .ok (.aload_n 0, 1) := by decide +kernel
theorem d_MO_print_21 : decode b_MO_print 21 = .ok (.getfield 23, 3) := by decide +kernel
theorem d_MO_print_24 : decode b_MO_print 24 = .ok (.sipush 132, 3) := by decide +kernel
theorem d_MO_print_27 : decode b_MO_print 27 = .ok (.aload_n 0, 1) := by decide +kernel
theorem d_MO_print_28 : decode b_MO_print 28 = .ok (.getfield 134, 3) := by decide +kernel
theorem d_MO_print_31 : decode b_MO_print 31 = .ok (.imul, 1) := by decide +kernel
theorem d_MO_print_32 : decode b_MO_print 32 = .ok (.iload_n 1, 1) := by decide +kernel
theorem d_MO_print_33 : decode b_MO_print 33 = .ok (.iadd, 1) := by decide +kernel
theorem d_MO_print_34 : decode b_MO_print 34 = .ok (.aload_n 0, 1) := by decide +kernel
theorem d_MO_print_35 : decode b_MO_print 35 = .ok (.getfield 7, 3) := by decide +kernel
theorem d_MO_print_38 : decode b_MO_print 38 = .ok (.sipush 201, 3) := by decide +kernel
theorem d_MO_print_41 : decode b_MO_print 41 = .ok (.iload_n 1, 1) := by decide +kernel
theorem d_MO_print_42 : decode b_MO_print 42 = .ok (.iadd, 1) := by decide +kernel
theorem d_MO_print_43 : decode b_MO_print 43 = .ok (.baload, 1) := by decide +kernel
theorem d_MO_print_44 : decode b_MO_print 44 = .ok (.bastore, 1) := by decide +kernel
theorem d_MO_print_45 : decode b_MO_print 45 = .ok (.iinc 1 1, 3) := by decide +kernel
theorem d_MO_print_48 : decode b_MO_print 48 = .ok (.goto (-35), 3) := by decide +kernel
theorem d_MO_print_51 : decode b_MO_print 51 = .ok (.aload_n 0, 1) := by decide +kernel
theorem d_MO_print_52 : decode b_MO_print 52 = .ok (.dup, 1) := by decide +kernel
theorem d_MO_print_53 : decode b_MO_print 53 = .ok (.getfield 134, 3) := by decide +kernel
theorem d_MO_print_56 : decode b_MO_print 56 = .ok (.iconst 1, 1) := by decide +kernel
theorem d_MO_print_57 : decode b_MO_print 57 = .ok (.iadd, 1) := by decide +kernel
theorem d_MO_print_58 : decode b_MO_print 58 = .ok (.putfield 134, 3) := by decide +kernel
theorem d_MO_print_61 : decode b_MO_print 61 = .ok (.aload_n 0, 1) := by decide +kernel
theorem d_MO_print_62 : decode b_MO_print 62 = .ok (.sipush 333, 3) := by decide +kernel
theorem d_MO_print_65 : decode b_MO_print 65 = .ok (.putfield 75, 3) := by decide +kernel
theorem d_MO_print_68 : decode b_MO_print 68 = .ok (.iconst 0, 1) := by decide +kernel
theorem d_MO_print_69 : decode b_MO_print 69 = .ok (.ireturn, 1) := by decide +kernel
theorem d_MO_punchCard_0 : decode b_MO_punchCard 0 = .ok (.aload_n 0, 1) := by decide +kernel
theorem d_MO_punchCard_1 : decode b_MO_punchCard 1 = .ok (.getfield 137, 3) := by decide +kernel
theorem d_MO_punchCard_4 : decode b_MO_punchCard 4 = .ok (.bipush 20, 2) := by decide +kernel
theorem d_MO_punchCard_6 : decode b_MO_punchCard 6 = .ok (.if_icmp .ne 5, 3) := by decide +kernel
theorem d_MO_punchCard_9 : decode b_MO_punchCard 9 = .ok (.iconst 5, 1) := by decide +kernel
theorem d_MO_punchCard_10 : decode b_MO_punchCard 10 = .ok (.ireturn, 1) := by decide +kernel
theorem d_MO_punchCard_11 : decode b_MO_punchCard 11 = .ok (.iconst 0, 1) := by decide +kernel
theorem d_MO_punchCard_12 : decode b_MO_punchCard 12 = .ok (.istore_n 1, 1) := by decide +kernel
theorem d_MO_punchCard_13 : decode b_MO_punchCard 13 = .ok (.iload_n 1, 1) := by decide +kernel
theorem d_MO_punchCard_14 : decode b_MO_punchCard 14 = .ok (.bipush 80, 2) := by decide +kernel
theorem d_MO_punchCard_16 : decode b_MO_punchCard 16 = .ok (.if_icmp .ge 32, 3) := by decide +kernel
theorem d_MO_punchCard_19 : decode b_MO_punchCard 19 = .ok (.aload_n 0, 1) := by decide +kernel
theorem d_MO_punchCard_20 : decode b_MO_punchCard 20 = .ok (.getfield 26, 3) := by decide +kernel
theorem d_MO_punchCard_23 : decode b_MO_punchCard 23 = .ok (.bipush 80, 2) := by decide +kernel
theorem d_MO_punchCard_25 : decode b_MO_punchCard 25 = .ok (.aload_n 0, 1) := by decide +kernel
theorem d_MO_punchCard_26 : decode b_MO_punchCard 26 = .ok (.getfield 137, 3) := by decide +kernel
theorem d_MO_punchCard_29 : decode b_MO_punchCard 29 = .ok (.imul, 1) := by decide +kernel
theorem d_MO_punchCard_30 : decode b_MO_punchCard 30 = .ok (.iload_n 1, 1) := by decide +kernel
theorem d_MO_punchCard_31 : decode b_MO_punchCard 31 = .ok (.iadd, 1) := by decide +kernel
theorem d_MO_punchCard_32 : decode b_MO_punchCard 32 = .ok (.aload_n 0, 1) := by decide +kernel
theorem d_MO_punchCard_33 : decode b_MO_punchCard 33 = .ok (.getfield 7, 3) := by decide +kernel
theorem d_MO_punchCard_36 : decode b_MO_punchCard 36 = .ok (.bipush 101, 2) := by decide +kernel
theorem d_MO_punchCard_38 : decode b_MO_punchCard 38 = .ok (.iload_n 1, 1) := by decide +kernel
theorem d_MO_punchCard_39 : decode b_MO_punchCard 39 = .ok (.iadd, 1) := by decide +kernel
theorem d_MO_punchCard_40 : decode b_MO_punchCard 40 = .ok (.baload, 1) := by decide +kernel
theorem d_MO_punchCard_41 : decode b_MO_punchCard 41 = .ok (.bastore, 1) := by decide +kernel
theorem d_MO_punchCard_42 : decode b_MO_punchCard 42 = .ok (.iinc 1 1, 3) := by decide +kernel
theorem d_MO_punchCard_45 : decode b_MO_punchCard 45 = .ok (.goto (-32), 3) := by decide +kernel
theorem d_MO_punchCard_48 : decode b_MO_punchCard 48 = .ok (.aload_n 0, 1) := by decide +kernel
theorem d_MO_punchCard_49 : decode b_MO_punchCard 49 = .ok (.dup, 1) := by decide +kernel
theorem d_MO_punchCard_50 : decode b_MO_punchCard 50 = .ok (.getfield 137, 3) := by decide +kernel
theorem d_MO_punchCard_53 : decode b_MO_punchCard 53 = .ok (.iconst 1, 1) := by decide +kernel
theorem d_MO_punchCard_54 : decode b_MO_punchCard 54 = .ok (.iadd, 1) := by decide +kernel
theorem d_MO_punchCard_55 : decode b_MO_punchCard 55 = .ok (.putfield 137, 3) := by decide +kernel
theorem d_MO_punchCard_58 : decode b_MO_punchCard 58 = .ok (.aload_n 0, 1) := by decide +kernel
theorem d_MO_punchCard_59 : decode b_MO_punchCard 59 = .ok (.sipush 181, 3) := by decide +kernel
theorem d_MO_punchCard_62 : decode b_MO_punchCard 62 = .ok (.putfield 75, 3) := by decide +kernel
theorem d_MO_punchCard_65 : decode b_MO_punchCard 65 = .ok (.iconst 0, 1) := by decide +kernel
theorem d_MO_punchCard_66 : decode b_MO_punchCard 66 = .ok (.ireturn, 1) := by decide +kernel
theorem d_MO_device_0 : decode b_MO_device 0 = .ok (.aload_n 0, 1) := by decide +kernel
theorem d_MO_device_1 : decode b_MO_device 1 = .ok (.getfield 91, 3) := by decide +kernel
theorem d_MO_device_4 : decode b_MO_device 4 = .ok (.iconst 1, 1) := by decide +kernel
theorem d_MO_device_5 : decode b_MO_device 5 = .ok (.if_icmp .ne 10, 3) := by decide +kernel
theorem d_MO_device_8 : decode b_MO_device 8 = .ok (.aload_n 0, 1) := by decide +kernel
theorem d_MO_device_9 : decode b_MO_device 9 = .ok (.invokevirtual 140, 3) := by decide +kernel
theorem d_MO_device_12 : decode b_MO_device 12 = .ok (.goto 22, 3) := by decide +kernel
theorem d_MO_device_15 : decode b_MO_device 15 = .ok (.aload_n 0, 1) := by decide +kernel
theorem d_MO_device_16 : decode b_MO_device 16 = .ok (.getfield 91, 3) := by decide +kernel
theorem d_MO_device_19 : decode b_MO_device 19 = .ok (.iconst 2, 1) := by decide +kernel
theorem d_MO_device_20 : decode b_MO_device 20 = .ok (.if_icmp .ne 10, 3) := by decide +kernel
theorem d_MO_device_23 : decode b_MO_device 23 = .ok (.aload_n 0, 1) := by decide +kernel
theorem d_MO_device_24 : decode b_MO_device 24 = .ok (.invokevirtual 143, 3) := by decide +kernel
theorem d_MO_device_27 : decode b_MO_device 27 = .ok (.goto 7, 3) := by decide +kernel
theorem d_MO_device_30 : decode b_MO_device 30 = .ok (.aload_n 0, 1) := by decide +kernel
theorem d_MO_device_31 : decode b_MO_device 31 = .ok (.invokevirtual 146, 3) := by decide +kernel
theorem d_MO_device_34 : decode b_MO_device 34 = .ok (.istore_n 1, 1) := by decide +kernel
theorem d_MO_device_35 : decode b_MO_device 35 = .ok (.iload_n 1, 1) := by decide +kernel
theorem d_MO_device_36 : decode b_MO_device 36 = .ok (.ifCond .ne 15, 3) := by decide +kernel
theorem d_MO_device_39 : decode b_MO_device 39 = .ok (.aload_n 0, 1) := by decide +kernel
theorem d_MO_device_40 : decode b_MO_device 40 = .ok (.getfield 119, 3) := by decide +kernel
theorem d_MO_device_43 : decode b_MO_device 43 = .ok (.iconst 3, 1) := by decide +kernel
theorem d_MO_device_44 : decode b_MO_device 44 = .ok (.if_icmp .le 7, 3) := by decide +kernel
theorem d_MO_device_47 : decode b_MO_device 47 = .ok (.aload_n 0, 1) := by decide +kernel
theorem d_MO_device_48 : decode b_MO_device 48 = .ok (.invokevirtual 122, 3) := by decide +kernel
theorem d_MO_device_51 : decode b_MO_device 51 = .ok (.iload_n 1, 1) := by decide +kernel
theorem d_MO_device_52 : decode b_MO_device 52 = .ok (.ireturn, 1) := by decide +kernel
theorem d_MO_keepRegister_0 : decode b_MO_keepRegister 0 = .ok (.aload_n 0, 1) := by decide +kernel
theorem d_MO_keepRegister_1 : decode b_MO_keepRegister 1 = .ok (.aload_n 0, 1) := by decide +kernel
theorem d_MO_keepRegister_2 : decode b_MO_keepRegister 2 = .ok (.getfield 85, 3) := by decide +kernel
theorem d_MO_keepRegister_5 : decode b_MO_keepRegister 5 = .ok (.invokevirtual 46, 3) := by decide +kernel
theorem d_MO_keepRegister_8 : decode b_MO_keepRegister 8 = .ok (.ifCond .eq 16, 3) := by decide +kernel
theorem d_MO_keepRegister_11 : decode b_MO_keepRegister 11 = .ok (.aload_n 0, 1) := by decide +kernel
theorem d_MO_keepRegister_12 : decode b_MO_keepRegister 12 = .ok (.aload_n 0, 1) := by decide +kernel
theorem d_MO_keepRegister_13 : decode b_MO_keepRegister 13 = .ok (.getfield 85, 3) := by decide +kernel
theorem d_MO_keepRegister_16 : decode b_MO_keepRegister 16 = .ok (.iconst 2, 1) := by decide +kernel
theorem d_MO_keepRegister_17 : decode b_MO_keepRegister 17 = .ok (.isub, 1) := by decide +kernel
theorem d_MO_keepRegister_18 : decode b_MO_keepRegister 18 = .ok (.invokevirtual 46, 3) := by decide +kernel
theorem d_MO_keepRegister_21 : decode b_MO_keepRegister 21 = .ok (.ifCond .ne 5, 3) := by decide +kernel
theorem d_MO_keepRegister_24 : decode b_MO_keepRegister 24 = .ok (.iconst 2, 1) := by decide +kernel
theorem d_MO_keepRegister_25 : decode b_MO_keepRegister 25 = .ok (.ireturn, 1) := by decide +kernel
theorem d_MO_keepRegister_26 : decode b_MO_keepRegister 26 = .ok (.aload_n 0, 1) := by decide +kernel
theorem d_MO_keepRegister_27 : decode b_MO_keepRegister 27 = .ok (.getfield 91, 3) := by decide +kernel
theorem d_MO_keepRegister_30 : decode b_MO_keepRegister 30 = .ok (.bipush 40, 2) := by decide +kernel
theorem d_MO_keepRegister_32 : decode b_MO_keepRegister 32 = .ok (.if_icmp .ne 10, 3) := by decide +kernel
theorem d_MO_keepRegister_35 : decode b_MO_keepRegister 35 = .ok (.aload_n 0, 1) := by decide +kernel
theorem d_MO_keepRegister_36 : decode b_MO_keepRegister 36 = .ok (.getfield 149, 3) := by decide +kernel
theorem d_MO_keepRegister_39 : decode b_MO_keepRegister 39 = .ok (.goto 7, 3) := by decide +kernel
theorem d_MO_keepRegister_42 : decode b_MO_keepRegister 42 = .ok (.aload_n 0, 1) := by decide +kernel
theorem d_MO_keepRegister_43 : decode b_MO_keepRegister 43 = .ok (.getfield 152, 3) := by decide +kernel
theorem d_MO_keepRegister_46 : decode b_MO_keepRegister 46 = .ok (.sipush 16000, 3) := by decide +kernel
theorem d_MO_keepRegister_49 : decode b_MO_keepRegister 49 = .ok (.irem, 1) := by decide +kernel
theorem d_MO_keepRegister_50 : decode b_MO_keepRegister 50 = .ok (.istore_n 1, 1) := by decide +kernel
theorem d_MO_keepRegister_51 : decode b_MO_keepRegister 51 = .ok (.iload_n 1, 1) := by decide +kernel
theorem d_MO_keepRegister_52 : decode b_MO_keepRegister 52 = .ok (.ifCond .ge 11, 3) := by decide +kernel
theorem d_MO_keepRegister_55 : decode b_MO_keepRegister 55 = .ok (.iload_n 1, 1) := by decide +kernel
theorem d_MO_keepRegister_56 : decode b_MO_keepRegister 56 = .ok (.sipush 16000, 3) := by decide +kernel
theorem d_MO_keepRegister_59 : decode b_MO_keepRegister 59 = .ok (.iadd, 1) := by decide +kernel
theorem d_MO_keepRegister_60 : decode b_MO_keepRegister 60 = .ok (.goto 4, 3) := by decide +kernel
theorem d_MO_keepRegister_63 : decode b_MO_keepRegister 63 = .ok (.iload_n 1, 1) := by decide +kernel
theorem d_MO_keepRegister_64 : decode b_MO_keepRegister 64 = .ok (.istore_n 1, 1) := by decide +kernel
theorem d_MO_keepRegister_65 : decode b_MO_keepRegister 65 = .ok (.iload_n 1, 1) := by decide +kernel
theorem d_MO_keepRegister_66 : decode b_MO_keepRegister 66 = .ok (.sipush 1000, 3) := by decide +kernel
theorem d_MO_keepRegister_69 : decode b_MO_keepRegister 69 = .ok (.idiv, 1) := by decide +kernel
theorem d_MO_keepRegister_70 : decode b_MO_keepRegister 70 = .ok (.istore_n 2, 1) := by decide +kernel
theorem d_MO_keepRegister_71 : decode b_MO_keepRegister 71 = .ok (.aload_n 0, 1) := by decide +kernel
theorem d_MO_keepRegister_72 : decode b_MO_keepRegister 72 = .ok (.getfield 7, 3) := by decide +kernel
theorem d_MO_keepRegister_75 : decode b_MO_keepRegister 75 = .ok (.aload_n 0, 1) := by decide +kernel
theorem d_MO_keepRegister_76 : decode b_MO_keepRegister 76 = .ok (.getfield 85, 3) := by decide +kernel
theorem d_MO_keepRegister_79 : decode b_MO_keepRegister 79 = .ok (.iconst 2, 1) := by decide +kernel
theorem d_MO_keepRegister_80 : decode b_MO_keepRegister 80 = .ok (.isub, 1) := by decide +kernel
theorem d_MO_keepRegister_81 : decode b_MO_keepRegister 81 = .ok (.iload_n 1, 1) := by decide +kernel
theorem d_MO_keepRegister_82 : decode b_MO_keepRegister 82 = .ok (.bipush 100, 2) := by decide +kernel
theorem d_MO_keepRegister_84 : decode b_MO_keepRegister 84 = .ok (.idiv, 1) := by decide +kernel
theorem d_MO_keepRegister_85 : decode b_MO_keepRegister 85 = .ok (.bipush 10, 2) := by decide +kernel
theorem d_MO_keepRegister_87 : decode b_MO_keepRegister 87 = .ok (.irem, 1) := by decide +kernel
theorem d_MO_keepRegister_88 : decode b_MO_keepRegister 88 = .ok (.invokestatic 78, 3) := by decide +kernel
theorem d_MO_keepRegister_91 : decode b_MO_keepRegister 91 = .ok (.iload_n 2, 1) := by decide +kernel
theorem d_MO_keepRegister_92 : decode b_MO_keepRegister 92 = .ok (.iconst 1, 1) := by decide +kernel
theorem d_MO_keepRegister_93 : decode b_MO_keepRegister 93 = .ok (.iand, 1) := by decide +kernel
theorem d_MO_keepRegister_94 : decode b_MO_keepRegister 94 = .ok (.bipush 16, 2) := by decide +kernel
theorem d_MO_keepRegister_96 : decode b_MO_keepRegister 96 = .ok (.imul, 1) := by decide +kernel
theorem d_MO_keepRegister_97 : decode b_MO_keepRegister 97 = .ok (.ior, 1) := by decide +kernel
theorem d_MO_keepRegister_98 : decode b_MO_keepRegister 98 = .ok (.iload_n 2, 1) := by decide +kernel
theorem d_MO_keepRegister_99 : decode b_MO_keepRegister 99 = .ok (.iconst 1, 1) := by decide +kernel
theorem d_MO_keepRegister_100 : decode b_MO_keepRegister 100 = .ok (.ishr, 1) := by decide +kernel
theorem d_MO_keepRegister_101 : decode b_MO_keepRegister 101 = .ok (.iconst 1, 1) := by decide +kernel
theorem d_MO_keepRegister_102 : decode b_MO_keepRegister 102 = .ok (.iand, 1) := by decide +kernel
theorem d_MO_keepRegister_103 : decode b_MO_keepRegister 103 = .ok (.bipush 32, 2) := by decide +kernel
theorem d_MO_keepRegister_105 : decode b_MO_keepRegister 105 = .ok (.imul, 1) := by decide +kernel
theorem d_MO_keepRegister_106 : decode b_MO_keepRegister 106 = .ok (.ior, 1) := by decide +kernel
theorem d_MO_keepRegister_107 : decode b_MO_keepRegister 107 = .ok (.i2b, 1) := by decide +kernel
theorem d_MO_keepRegister_108 : decode b_MO_keepRegister 108 = .ok (.bastore, 1) := by decide +kernel
theorem d_MO_keepRegister_109 : decode b_MO_keepRegister 109 = .ok (.aload_n 0, 1) := by decide +kernel
theorem d_MO_keepRegister_110 : decode b_MO_keepRegister 110 = .ok (.getfield 7, 3) := by decide +kernel
theorem d_MO_keepRegister_113 : decode b_MO_keepRegister 113 = .ok (.aload_n 0, 1) := by decide +kernel
theorem d_MO_keepRegister_114 : decode b_MO_keepRegister 114 = .ok (.getfield 85, 3) := by decide +kernel
theorem d_MO_keepRegister_117 : decode b_MO_keepRegister 117 = .ok (.iconst 1, 1) := by decide +kernel
theorem d_MO_keepRegister_118 : decode b_MO_keepRegister 118 = .ok (.isub, 1) := by decide +kernel
theorem d_MO_keepRegister_119 : decode b_MO_keepRegister 119 = .ok (.iload_n 1, 1) := by decide +kernel
theorem d_MO_keepRegister_120 : decode b_MO_keepRegister 120 = .ok (.bipush 10, 2) := by decide +kernel
theorem d_MO_keepRegister_122 : decode b_MO_keepRegister 122 = .ok (.idiv, 1) := by decide +kernel
theorem d_MO_keepRegister_123 : decode b_MO_keepRegister 123 = .ok (.bipush 10, 2) := by decide +kernel
theorem d_MO_keepRegister_125 : decode b_MO_keepRegister 125 = .ok (.irem, 1) := by decide +kernel
theorem d_MO_keepRegister_126 : decode b_MO_keepRegister 126 = .ok (.invokestatic 78, 3) := by decide +kernel
theorem d_MO_keepRegister_129 : decode b_MO_keepRegister 129 = .ok (.i2b, 1) := by decide +kernel
theorem d_MO_keepRegister_130 : decode b_MO_keepRegister 130 = .ok (.bastore, 1) := by decide +kernel
theorem d_MO_keepRegister_131 : decode b_MO_keepRegister 131 = .ok (.aload_n 0, 1) := by decide +kernel
theorem d_MO_keepRegister_132 : decode b_MO_keepRegister 132 = .ok (.getfield 7, 3) := by decide +kernel
theorem d_MO_keepRegister_135 : decode b_MO_keepRegister 135 = .ok (.aload_n 0, 1) := by decide +kernel
theorem d_MO_keepRegister_136 : decode b_MO_keepRegister 136 = .ok (.getfield 85, 3) := by decide +kernel
theorem d_MO_keepRegister_139 : decode b_MO_keepRegister 139 = .ok (.iload_n 1, 1) := by decide +kernel
theorem d_MO_keepRegister_140 : decode b_MO_keepRegister 140 = .ok (.bipush 10, 2) := by decide +kernel
theorem d_MO_keepRegister_142 : decode b_MO_keepRegister 142 = .ok (.irem, 1) := by decide +kernel
theorem d_MO_keepRegister_143 : decode b_MO_keepRegister 143 = .ok (.invokestatic 78, 3) := by decide +kernel
theorem d_MO_keepRegister_146 : decode b_MO_keepRegister 146 = .ok (.iload_n 2, 1) := by decide +kernel
theorem d_MO_keepRegister_147 : decode b_MO_keepRegister 147 = .ok (.iconst 2, 1) := by decide +kernel
theorem d_MO_keepRegister_148 : decode b_MO_keepRegister 148 = .ok (.ishr, 1) := by decide +kernel
theorem d_MO_keepRegister_149 : decode b_MO_keepRegister 149 = .ok (.iconst 1, 1) := by decide +kernel
theorem d_MO_keepRegister_150 : decode b_MO_keepRegister 150 = .ok (.iand, 1) := by decide +kernel
theorem d_MO_keepRegister_151 : decode b_MO_keepRegister 151 = .ok (.bipush 16, 2) := by decide +kernel
theorem d_MO_keepRegister_153 : decode b_MO_keepRegister 153 = .ok (.imul, 1) := by decide +kernel
theorem d_MO_keepRegister_154 : decode b_MO_keepRegister 154 = .ok (.ior, 1) := by decide +kernel
theorem d_MO_keepRegister_155 : decode b_MO_keepRegister 155 = .ok (.iload_n 2, 1) := by decide +kernel
theorem d_MO_keepRegister_156 : decode b_MO_keepRegister 156 = .ok (.iconst 3, 1) := by decide +kernel
theorem d_MO_keepRegister_157 : decode b_MO_keepRegister 157 = .ok (.ishr, 1) := by decide +kernel
theorem d_MO_keepRegister_158 : decode b_MO_keepRegister 158 = .ok (.iconst 1, 1) := by decide +kernel
theorem d_MO_keepRegister_159 : decode b_MO_keepRegister 159 = .ok (.iand, 1) := by decide +kernel
theorem d_MO_keepRegister_160 : decode b_MO_keepRegister 160 = .ok (.bipush 32, 2) := by decide +kernel
theorem d_MO_keepRegister_162 : decode b_MO_keepRegister 162 = .ok (.imul, 1) := by decide +kernel
theorem d_MO_keepRegister_163 : decode b_MO_keepRegister 163 = .ok (.ior, 1) := by decide +kernel
theorem d_MO_keepRegister_164 : decode b_MO_keepRegister 164 = .ok (.i2b, 1) := by decide +kernel
theorem d_MO_keepRegister_165 : decode b_MO_keepRegister 165 = .ok (.bastore, 1) := by decide +kernel
theorem d_MO_keepRegister_166 : decode b_MO_keepRegister 166 = .ok (.aload_n 0, 1) := by decide +kernel
theorem d_MO_keepRegister_167 : decode b_MO_keepRegister 167 = .ok (.dup, 1) := by decide +kernel
theorem d_MO_keepRegister_168 : decode b_MO_keepRegister 168 = .ok (.getfield 85, 3) := by decide +kernel
theorem d_MO_keepRegister_171 : decode b_MO_keepRegister 171 = .ok (.iconst 3, 1) := by decide +kernel
theorem d_MO_keepRegister_172 : decode b_MO_keepRegister 172 = .ok (.isub, 1) := by decide +kernel
theorem d_MO_keepRegister_173 : decode b_MO_keepRegister 173 = .ok (.putfield 85, 3) := by decide +kernel
theorem d_MO_keepRegister_176 : decode b_MO_keepRegister 176 = .ok (.aload_n 0, 1) := by decide +kernel
theorem d_MO_keepRegister_177 : decode b_MO_keepRegister 177 = .ok (.aload_n 0, 1) := by decide +kernel
theorem d_MO_keepRegister_178 : decode b_MO_keepRegister 178 = .ok (.getfield 152, 3) := by decide +kernel
theorem d_MO_keepRegister_181 : decode b_MO_keepRegister 181 = .ok (.putfield 75, 3) := by decide +kernel
theorem d_MO_keepRegister_184 : decode b_MO_keepRegister 184 = .ok (.iconst 0, 1) := by decide +kernel
theorem d_MO_keepRegister_185 : decode b_MO_keepRegister 185 = .ok (.ireturn, 1) := by decide +kernel
theorem d_MO_address_0 : decode b_MO_address 0 = .ok (.aload_n 0, 1) := by decide +kernel
theorem d_MO_address_1 : decode b_MO_address 1 = .ok (.getfield 7, 3) := by decide +kernel
theorem d_MO_address_4 : decode b_MO_address 4 = .ok (.iload_n 1, 1) := by decide +kernel
theorem d_MO_address_5 : decode b_MO_address 5 = .ok (.baload, 1) := by decide +kernel
theorem d_MO_address_6 : decode b_MO_address 6 = .ok (.istore_n 2, 1) := by decide +kernel
theorem d_MO_address_7 : decode b_MO_address 7 = .ok (.aload_n 0, 1) := by decide +kernel
theorem d_MO_address_8 : decode b_MO_address 8 = .ok (.getfield 7, 3) := by decide +kernel
theorem d_MO_address_11 : decode b_MO_address 11 = .ok (.iload_n 1, 1) := by decide +kernel
theorem d_MO_address_12 : decode b_MO_address 12 = .ok (.iconst 1, 1) := by decide +kernel
theorem d_MO_address_13 : decode b_MO_address 13 = .ok (.iadd, 1) := by decide +kernel
theorem d_MO_address_14 : decode b_MO_address 14 = .ok (.baload, 1) := by decide +kernel
theorem d_MO_address_15 : decode b_MO_address 15 = .ok (.istore_n 3, 1) := by decide +kernel
theorem d_MO_address_16 : decode b_MO_address 16 = .ok (.aload_n 0, 1) := by decide +kernel
theorem d_MO_address_17 : decode b_MO_address 17 = .ok (.getfield 7, 3) := by decide +kernel
theorem d_MO_address_20 : decode b_MO_address 20 = .ok (.iload_n 1, 1) := by decide +kernel
theorem d_MO_address_21 : decode b_MO_address 21 = .ok (.iconst 2, 1) := by decide +kernel
theorem d_MO_address_22 : decode b_MO_address 22 = .ok (.iadd, 1) := by decide +kernel
theorem d_MO_address_23 : decode b_MO_address 23 = .ok (.baload, 1) := by decide +kernel
theorem d_MO_address_24 : decode b_MO_address 24 = .ok (.istore 4, 2) := by decide +kernel
theorem d_MO_address_26 : decode b_MO_address 26 = .ok (.bipush 100, 2) := by decide +kernel
theorem d_MO_address_28 : decode b_MO_address 28 = .ok (.iload_n 2, 1) := by decide +kernel
theorem d_MO_address_29 : decode b_MO_address 29 = .ok (.invokestatic 72, 3) := by decide +kernel
theorem d_MO_address_32 : decode b_MO_address 32 = .ok (.imul, 1) := by decide +kernel
theorem d_MO_address_33 : decode b_MO_address 33 = .ok (.bipush 10, 2) := by decide +kernel
theorem d_MO_address_35 : decode b_MO_address 35 = .ok (.iload_n 3, 1) := by decide +kernel
theorem d_MO_address_36 : decode b_MO_address 36 = .ok (.invokestatic 72, 3) := by decide +kernel
theorem d_MO_address_39 : decode b_MO_address 39 = .ok (.imul, 1) := by decide +kernel
theorem d_MO_address_40 : decode b_MO_address 40 = .ok (.iadd, 1) := by decide +kernel
theorem d_MO_address_41 : decode b_MO_address 41 = .ok (.iload 4, 2) := by decide +kernel
theorem d_MO_address_43 : decode b_MO_address 43 = .ok (.invokestatic 72, 3) := by decide +kernel
theorem d_MO_address_46 : decode b_MO_address 46 = .ok (.iadd, 1) := by decide +kernel
theorem d_MO_address_47 : decode b_MO_address 47 = .ok (.iload_n 2, 1) := by decide +kernel
theorem d_MO_address_48 : decode b_MO_address 48 = .ok (.iconst 4, 1) := by decide +kernel
theorem d_MO_address_49 : decode b_MO_address 49 = .ok (.ishr, 1) := by decide +kernel
theorem d_MO_address_50 : decode b_MO_address 50 = .ok (.iconst 1, 1) := by decide +kernel
theorem d_MO_address_51 : decode b_MO_address 51 = .ok (.iand, 1) := by decide +kernel
theorem d_MO_address_52 : decode b_MO_address 52 = .ok (.sipush 1000, 3) := by decide +kernel
theorem d_MO_address_55 : decode b_MO_address 55 = .ok (.imul, 1) := by decide +kernel
theorem d_MO_address_56 : decode b_MO_address 56 = .ok (.iadd, 1) := by decide +kernel
theorem d_MO_address_57 : decode b_MO_address 57 = .ok (.iload_n 2, 1) := by decide +kernel
theorem d_MO_address_58 : decode b_MO_address 58 = .ok (.iconst 5, 1) := by decide +kernel
theorem d_MO_address_59 : decode b_MO_address 59 = .ok (.ishr, 1) := by decide +kernel
theorem d_MO_address_60 : decode b_MO_address 60 = .ok (.iconst 1, 1) := by decide +kernel
theorem d_MO_address_61 : decode b_MO_address 61 = .ok (.iand, 1) := by decide +kernel
theorem d_MO_address_62 : decode b_MO_address 62 = .ok (.sipush 2000, 3) := by decide +kernel
theorem d_MO_address_65 : decode b_MO_address 65 = .ok (.imul, 1) := by decide +kernel
theorem d_MO_address_66 : decode b_MO_address 66 = .ok (.iadd, 1) := by decide +kernel
theorem d_MO_address_67 : decode b_MO_address 67 = .ok (.iload 4, 2) := by decide +kernel
theorem d_MO_address_69 : decode b_MO_address 69 = .ok (.iconst 4, 1) := by decide +kernel
theorem d_MO_address_70 : decode b_MO_address 70 = .ok (.ishr, 1) := by decide +kernel
theorem d_MO_address_71 : decode b_MO_address 71 = .ok (.iconst 1, 1) := by decide +kernel
theorem d_MO_address_72 : decode b_MO_address 72 = .ok (.iand, 1) := by decide +kernel
theorem d_MO_address_73 : decode b_MO_address 73 = .ok (.sipush 4000, 3) := by decide +kernel
theorem d_MO_address_76 : decode b_MO_address 76 = .ok (.imul, 1) := by decide +kernel
theorem d_MO_address_77 : decode b_MO_address 77 = .ok (.iadd, 1) := by decide +kernel
theorem d_MO_address_78 : decode b_MO_address 78 = .ok (.iload 4, 2) := by decide +kernel
theorem d_MO_address_80 : decode b_MO_address 80 = .ok (.iconst 5, 1) := by decide +kernel
theorem d_MO_address_81 : decode b_MO_address 81 = .ok (.ishr, 1) := by decide +kernel
theorem d_MO_address_82 : decode b_MO_address 82 = .ok (.iconst 1, 1) := by decide +kernel
theorem d_MO_address_83 : decode b_MO_address 83 = .ok (.iand, 1) := by decide +kernel
theorem d_MO_address_84 : decode b_MO_address 84 = .ok (.sipush 8000, 3) := by decide +kernel
theorem d_MO_address_87 : decode b_MO_address 87 = .ok (.imul, 1) := by decide +kernel
theorem d_MO_address_88 : decode b_MO_address 88 = .ok (.iadd, 1) := by decide +kernel
theorem d_MO_address_89 : decode b_MO_address 89 = .ok (.ireturn, 1) := by decide +kernel
theorem d_MO_isArithmetic_0 : decode b_MO_isArithmetic 0 = .ok (.iload_n 0, 1) := by decide +kernel
theorem d_MO_isArithmetic_1 : decode b_MO_isArithmetic 1 = .ok (.bipush 49, 2) := by decide +kernel
theorem d_MO_isArithmetic_3 : decode b_MO_isArithmetic 3 = .ok (.if_icmp .eq 21, 3) := by decide +kernel
theorem d_MO_isArithmetic_6 : decode b_MO_isArithmetic 6 = .ok (.iload_n 0, 1) := by decide +kernel
theorem d_MO_isArithmetic_7 : decode b_MO_isArithmetic 7 = .ok (.bipush 18, 2) := by decide +kernel
theorem d_MO_isArithmetic_9 : decode b_MO_isArithmetic 9 = .ok (.if_icmp .eq 15, 3) := by decide +kernel
theorem d_MO_isArithmetic_12 : decode b_MO_isArithmetic 12 = .ok (.iload_n 0, 1) := by decide +kernel
theorem d_MO_isArithmetic_13 : decode b_MO_isArithmetic 13 = .ok (.bipush 58, 2) := by decide +kernel
theorem d_MO_isArithmetic_15 : decode b_MO_isArithmetic 15 = .ok (.if_icmp .eq 9, 3) := by decide +kernel
theorem d_MO_isArithmetic_18 : decode b_MO_isArithmetic 18 = .ok (.iload_n 0, 1) := by decide +kernel
theorem d_MO_isArithmetic_19 : decode b_MO_isArithmetic 19 = .ok (.bipush 42, 2) := by decide +kernel
theorem d_MO_isArithmetic_21 : decode b_MO_isArithmetic 21 = .ok (.if_icmp .ne 7, 3) := by decide +kernel
theorem d_MO_isArithmetic_24 : decode b_MO_isArithmetic 24 = .ok (.iconst 1, 1) := by decide +kernel
theorem d_MO_isArithmetic_25 : decode b_MO_isArithmetic 25 = .ok (.goto 4, 3) := by decide +kernel
theorem d_MO_isArithmetic_28 : decode b_MO_isArithmetic 28 = .ok (.iconst 0, 1) := by decide +kernel
theorem d_MO_isArithmetic_29 : decode b_MO_isArithmetic 29 = .ok (.ireturn, 1) := by decide +kernel
theorem d_MO_may_0 : decode b_MO_may 0 = .ok (.iload_n 1, 1) := by decide +kernel
theorem d_MO_may_1 : decode b_MO_may 1 = .ok (.iconst 1, 1) := by decide +kernel
theorem d_MO_may_2 : decode b_MO_may 2 = .ok (.if_icmp .eq 14, 3) := by decide +kernel
theorem d_MO_may_5 : decode b_MO_may 5 = .ok (.iload_n 1, 1) := by decide +kernel
theorem d_MO_may_6 : decode b_MO_may 6 = .ok (.iconst 4, 1) := by decide +kernel
theorem d_MO_may_7 : decode b_MO_may 7 = .ok (.if_icmp .eq 9, 3) := by decide +kernel
theorem d_MO_may_10 : decode b_MO_may 10 = .ok (.iload_n 1, 1) := by decide +kernel
theorem d_MO_may_11 : decode b_MO_may 11 = .ok (.bipush 7, 2) := by decide +kernel
theorem d_MO_may_13 : decode b_MO_may 13 = .ok (.if_icmp .ne 7, 3) := by decide +kernel
theorem d_MO_may_16 : decode b_MO_may 16 = .ok (.iconst 1, 1) := by decide +kernel
theorem d_MO_may_17 : decode b_MO_may 17 = .ok (.goto 4, 3) := by decide +kernel
theorem d_MO_may_20 : decode b_MO_may 20 = .ok (.iconst 0, 1) := by decide +kernel
theorem d_MO_may_21 : decode b_MO_may 21 = .ok (.istore_n 2, 1) := by decide +kernel
theorem d_MO_may_22 : decode b_MO_may 22 = .ok (.iload_n 0, 1) := by decide +kernel
theorem d_MO_may_23 : decode b_MO_may 23 = .ok (.invokestatic 155, 3) := by decide +kernel
theorem d_MO_may_26 : decode b_MO_may 26 = .ok (.ifCond .ne 57, 3) := by decide +kernel
theorem d_MO_may_29 : decode b_MO_may 29 = .ok (.iload_n 0, 1) := by decide +kernel
theorem d_MO_may_30 : decode b_MO_may 30 = .ok (.bipush 36, 2) := by decide +kernel
theorem d_MO_may_32 : decode b_MO_may 32 = .ok (.if_icmp .eq 51, 3) := by decide +kernel
theorem d_MO_may_35 : decode b_MO_may 35 = .ok (.iload_n 0, 1) := by decide +kernel
theorem d_MO_may_36 : decode b_MO_may 36 = .ok (.bipush 35, 2) := by decide +kernel
theorem d_MO_may_38 : decode b_MO_may 38 = .ok (.if_icmp .eq 45, 3) := by decide +kernel
theorem d_MO_may_41 : decode b_MO_may 41 = .ok (.iload_n 0, 1) := by decide +kernel
theorem d_MO_may_42 : decode b_MO_may 42 = .ok (.bipush 52, 2) := by decide +kernel
theorem d_MO_may_44 : decode b_MO_may 44 = .ok (.if_icmp .eq 39, 3) := by decide +kernel
theorem d_MO_may_47 : decode b_MO_may 47 = .ok (.iload_n 0, 1) := by decide +kernel
theorem d_MO_may_48 : decode b_MO_may 48 = .ok (.bipush 24, 2) := by decide +kernel
theorem d_MO_may_50 : decode b_MO_may 50 = .ok (.if_icmp .eq 33, 3) := by decide +kernel
theorem d_MO_may_53 : decode b_MO_may 53 = .ok (.iload_n 0, 1) := by decide +kernel
theorem d_MO_may_54 : decode b_MO_may 54 = .ok (.bipush 51, 2) := by decide +kernel
theorem d_MO_may_56 : decode b_MO_may 56 = .ok (.if_icmp .eq 27, 3) := by decide +kernel
theorem d_MO_may_59 : decode b_MO_may 59 = .ok (.iload_n 0, 1) := by decide +kernel
theorem d_MO_may_60 : decode b_MO_may 60 = .ok (.bipush 27, 2) := by decide +kernel
theorem d_MO_may_62 : decode b_MO_may 62 = .ok (.if_icmp .eq 21, 3) := by decide +kernel
theorem d_MO_may_65 : decode b_MO_may 65 = .ok (.iload_n 0, 1) := by decide +kernel
theorem d_MO_may_66 : decode b_MO_may 66 = .ok (.bipush 60, 2) := by decide +kernel
theorem d_MO_may_68 : decode b_MO_may 68 = .ok (.if_icmp .eq 15, 3) := by decide +kernel
theorem d_MO_may_71 : decode b_MO_may 71 = .ok (.iload_n 0, 1) := by decide +kernel
theorem d_MO_may_72 : decode b_MO_may 72 = .ok (.bipush 17, 2) := by decide +kernel
theorem d_MO_may_74 : decode b_MO_may 74 = .ok (.if_icmp .eq 9, 3) := by decide +kernel
theorem d_MO_may_77 : decode b_MO_may 77 = .ok (.iload_n 0, 1) := by decide +kernel
theorem d_MO_may_78 : decode b_MO_may 78 = .ok (.bipush 25, 2) := by decide +kernel
theorem d_MO_may_80 : decode b_MO_may 80 = .ok (.if_icmp .ne 5, 3) := by decide +kernel
theorem d_MO_may_83 : decode b_MO_may 83 = .ok (.iload_n 2, 1) := by decide +kernel
theorem d_MO_may_84 : decode b_MO_may 84 = .ok (.ireturn, 1) := by decide +kernel
theorem d_MO_may_85 : decode b_MO_may 85 = .ok (.iload_n 0, 1) := by decide +kernel
theorem d_MO_may_86 : decode b_MO_may 86 = .ok (.lookupswitch 200 #[(1, 121), (2, 121), (4, 121), (21, 109), (37, 158), (40, 147), (50, 82), (56, 147), (59, 184)], 82) := by decide +kernel
theorem d_MO_may_168 : decode b_MO_may 168 = .ok (.iload_n 1, 1) := by decide +kernel
theorem d_MO_may_169 : decode b_MO_may 169 = .ok (.iconst 1, 1) := by decide +kernel
theorem d_MO_may_170 : decode b_MO_may 170 = .ok (.if_icmp .eq 19, 3) := by decide +kernel
theorem d_MO_may_173 : decode b_MO_may 173 = .ok (.iload_n 1, 1) := by decide +kernel
theorem d_MO_may_174 : decode b_MO_may 174 = .ok (.iconst 4, 1) := by decide +kernel
theorem d_MO_may_175 : decode b_MO_may 175 = .ok (.if_icmp .eq 14, 3) := by decide +kernel
theorem d_MO_may_178 : decode b_MO_may 178 = .ok (.iload_n 1, 1) := by decide +kernel
theorem d_MO_may_179 : decode b_MO_may 179 = .ok (.iconst 5, 1) := by decide +kernel
theorem d_MO_may_180 : decode b_MO_may 180 = .ok (.if_icmp .eq 9, 3) := by decide +kernel
theorem d_MO_may_183 : decode b_MO_may 183 = .ok (.iload_n 1, 1) := by decide +kernel
theorem d_MO_may_184 : decode b_MO_may 184 = .ok (.bipush 8, 2) := by decide +kernel
theorem d_MO_may_186 : decode b_MO_may 186 = .ok (.if_icmp .ne 7, 3) := by decide +kernel
theorem d_MO_may_189 : decode b_MO_may 189 = .ok (.iconst 1, 1) := by decide +kernel
theorem d_MO_may_190 : decode b_MO_may 190 = .ok (.goto 4, 3) := by decide +kernel
theorem d_MO_may_193 : decode b_MO_may 193 = .ok (.iconst 0, 1) := by decide +kernel
theorem d_MO_may_194 : decode b_MO_may 194 = .ok (.ireturn, 1) := by decide +kernel
theorem d_MO_may_195 : decode b_MO_may 195 = .ok (.iload_n 1, 1) := by decide +kernel
theorem d_MO_may_196 : decode b_MO_may 196 = .ok (.bipush 8, 2) := by decide +kernel
theorem d_MO_may_198 : decode b_MO_may 198 = .ok (.if_icmp .ne 7, 3) := by decide +kernel
theorem d_MO_may_201 : decode b_MO_may 201 = .ok (.iconst 1, 1) := by decide +kernel
theorem d_MO_may_202 : decode b_MO_may 202 = .ok (.goto 4, 3) := by decide +kernel
theorem d_MO_may_205 : decode b_MO_may 205 = .ok (.iconst 0, 1) := by decide +kernel
theorem d_MO_may_206 : decode b_MO_may 206 = .ok (.ireturn, 1) := by decide +kernel
theorem d_MO_may_207 : decode b_MO_may 207 = .ok (.iload_n 1, 1) := by decide +kernel
theorem d_MO_may_208 : decode b_MO_may 208 = .ok (.iconst 1, 1) := by decide +kernel
theorem d_MO_may_209 : decode b_MO_may 209 = .ok (.if_icmp .eq 18, 3) := by decide +kernel
theorem d_MO_may_212 : decode b_MO_may 212 = .ok (.iload_n 1, 1) := by decide +kernel
theorem d_MO_may_213 : decode b_MO_may 213 = .ok (.iconst 2, 1) := by decide +kernel
theorem d_MO_may_214 : decode b_MO_may 214 = .ok (.if_icmp .eq 13, 3) := by decide +kernel
theorem d_MO_may_217 : decode b_MO_may 217 = .ok (.iload_n 1, 1) := by decide +kernel
theorem d_MO_may_218 : decode b_MO_may 218 = .ok (.iconst 4, 1) := by decide +kernel
theorem d_MO_may_219 : decode b_MO_may 219 = .ok (.if_icmp .eq 8, 3) := by decide +kernel
theorem d_MO_may_222 : decode b_MO_may 222 = .ok (.iload_n 1, 1) := by decide +kernel
theorem d_MO_may_223 : decode b_MO_may 223 = .ok (.iconst 5, 1) := by decide +kernel
theorem d_MO_may_224 : decode b_MO_may 224 = .ok (.if_icmp .ne 7, 3) := by decide +kernel
theorem d_MO_may_227 : decode b_MO_may 227 = .ok (.iconst 1, 1) := by decide +kernel
theorem d_MO_may_228 : decode b_MO_may 228 = .ok (.goto 4, 3) := by decide +kernel
theorem d_MO_may_231 : decode b_MO_may 231 = .ok (.iconst 0, 1) := by decide +kernel
theorem d_MO_may_232 : decode b_MO_may 232 = .ok (.ireturn, 1) := by decide +kernel
theorem d_MO_may_233 : decode b_MO_may 233 = .ok (.iload_n 1, 1) := by decide +kernel
theorem d_MO_may_234 : decode b_MO_may 234 = .ok (.iconst 4, 1) := by decide +kernel
theorem d_MO_may_235 : decode b_MO_may 235 = .ok (.if_icmp .ne 7, 3) := by decide +kernel
theorem d_MO_may_238 : decode b_MO_may 238 = .ok (.iconst 1, 1) := by decide +kernel
theorem d_MO_may_239 : decode b_MO_may 239 = .ok (.goto 4, 3) := by decide +kernel
theorem d_MO_may_242 : decode b_MO_may 242 = .ok (.iconst 0, 1) := by decide +kernel
theorem d_MO_may_243 : decode b_MO_may 243 = .ok (.ireturn, 1) := by decide +kernel
theorem d_MO_may_244 : decode b_MO_may 244 = .ok (.iload_n 2, 1) := by decide +kernel
theorem d_MO_may_245 : decode b_MO_may 245 = .ok (.ifCond .ne 19, 3) := by decide +kernel
theorem d_MO_may_248 : decode b_MO_may 248 = .ok (.iload_n 1, 1) := by decide +kernel
theorem d_MO_may_249 : decode b_MO_may 249 = .ok (.iconst 2, 1) := by decide +kernel
theorem d_MO_may_250 : decode b_MO_may 250 = .ok (.if_icmp .eq 14, 3) := by decide +kernel
theorem d_MO_may_253 : decode b_MO_may 253 = .ok (.iload_n 1, 1) := by decide +kernel
theorem d_MO_may_254 : decode b_MO_may 254 = .ok (.iconst 5, 1) := by decide +kernel
theorem d_MO_may_255 : decode b_MO_may 255 = .ok (.if_icmp .eq 9, 3) := by decide +kernel
theorem d_MO_may_258 : decode b_MO_may 258 = .ok (.iload_n 1, 1) := by decide +kernel
theorem d_MO_may_259 : decode b_MO_may 259 = .ok (.bipush 8, 2) := by decide +kernel
theorem d_MO_may_261 : decode b_MO_may 261 = .ok (.if_icmp .ne 7, 3) := by decide +kernel
theorem d_MO_may_264 : decode b_MO_may 264 = .ok (.iconst 1, 1) := by decide +kernel
theorem d_MO_may_265 : decode b_MO_may 265 = .ok (.goto 4, 3) := by decide +kernel
theorem d_MO_may_268 : decode b_MO_may 268 = .ok (.iconst 0, 1) := by decide +kernel
theorem d_MO_may_269 : decode b_MO_may 269 = .ok (.ireturn, 1) := by decide +kernel
theorem d_MO_may_270 : decode b_MO_may 270 = .ok (.iload_n 1, 1) := by decide +kernel
theorem d_MO_may_271 : decode b_MO_may 271 = .ok (.iconst 1, 1) := by decide +kernel
theorem d_MO_may_272 : decode b_MO_may 272 = .ok (.if_icmp .eq 8, 3) := by decide +kernel
theorem d_MO_may_275 : decode b_MO_may 275 = .ok (.iload_n 1, 1) := by decide +kernel
theorem d_MO_may_276 : decode b_MO_may 276 = .ok (.iconst 4, 1) := by decide +kernel
theorem d_MO_may_277 : decode b_MO_may 277 = .ok (.if_icmp .ne 7, 3) := by decide +kernel
theorem d_MO_may_280 : decode b_MO_may 280 = .ok (.iconst 1, 1) := by decide +kernel
theorem d_MO_may_281 : decode b_MO_may 281 = .ok (.goto 4, 3) := by decide +kernel
theorem d_MO_may_284 : decode b_MO_may 284 = .ok (.iconst 0, 1) := by decide +kernel
theorem d_MO_may_285 : decode b_MO_may 285 = .ok (.ireturn, 1) := by decide +kernel
theorem d_MO_may_286 : decode b_MO_may 286 = .ok (.iconst 0, 1) := by decide +kernel
theorem d_MO_may_287 : decode b_MO_may 287 = .ok (.ireturn, 1) := by decide +kernel
theorem d_MO_fetch_0 : decode b_MO_fetch 0 = .ok (.aload_n 0, 1) := by decide +kernel
theorem d_MO_fetch_1 : decode b_MO_fetch 1 = .ok (.aload_n 0, 1) := by decide +kernel
theorem d_MO_fetch_2 : decode b_MO_fetch 2 = .ok (.getfield 65, 3) := by decide +kernel
theorem d_MO_fetch_5 : decode b_MO_fetch 5 = .ok (.invokevirtual 46, 3) := by decide +kernel
theorem d_MO_fetch_8 : decode b_MO_fetch 8 = .ok (.ifCond .ne 5, 3) := by decide +kernel
theorem d_MO_fetch_11 : decode b_MO_fetch 11 = .ok (.iconst 2, 1) := by decide +kernel
theorem d_MO_fetch_12 : decode b_MO_fetch 12 = .ok (.ireturn, 1) := by decide +kernel
theorem d_MO_fetch_13 : decode b_MO_fetch 13 = .ok (.aload_n 0, 1) := by decide +kernel
theorem d_MO_fetch_14 : decode b_MO_fetch 14 = .ok (.getfield 13, 3) := by decide +kernel
theorem d_MO_fetch_17 : decode b_MO_fetch 17 = .ok (.aload_n 0, 1) := by decide +kernel
theorem d_MO_fetch_18 : decode b_MO_fetch 18 = .ok (.getfield 65, 3) := by decide +kernel
theorem d_MO_fetch_21 : decode b_MO_fetch 21 = .ok (.baload, 1) := by decide +kernel
theorem d_MO_fetch_22 : decode b_MO_fetch 22 = .ok (.ifCond .ne 5, 3) := by decide +kernel
theorem d_MO_fetch_25 : decode b_MO_fetch 25 = .ok (.iconst 1, 1) := by decide +kernel
theorem d_MO_fetch_26 : decode b_MO_fetch 26 = .ok (.ireturn, 1) := by decide +kernel
theorem d_MO_fetch_27 : decode b_MO_fetch 27 = .ok (.iconst 1, 1) := by decide +kernel
theorem d_MO_fetch_28 : decode b_MO_fetch 28 = .ok (.istore_n 1, 1) := by decide +kernel
theorem d_MO_fetch_29 : decode b_MO_fetch 29 = .ok (.iload_n 1, 1) := by decide +kernel
theorem d_MO_fetch_30 : decode b_MO_fetch 30 = .ok (.bipush 9, 2) := by decide +kernel
theorem d_MO_fetch_32 : decode b_MO_fetch 32 = .ok (.if_icmp .ge 53, 3) := by decide +kernel
theorem d_MO_fetch_35 : decode b_MO_fetch 35 = .ok (.aload_n 0, 1) := by decide +kernel
theorem d_MO_fetch_36 : decode b_MO_fetch 36 = .ok (.aload_n 0, 1) := by decide +kernel
theorem d_MO_fetch_37 : decode b_MO_fetch 37 = .ok (.getfield 65, 3) := by decide +kernel
theorem d_MO_fetch_40 : decode b_MO_fetch 40 = .ok (.iload_n 1, 1) := by decide +kernel
theorem d_MO_fetch_41 : decode b_MO_fetch 41 = .ok (.iadd, 1) := by decide +kernel
theorem d_MO_fetch_42 : decode b_MO_fetch 42 = .ok (.invokevirtual 46, 3) := by decide +kernel
theorem d_MO_fetch_45 : decode b_MO_fetch 45 = .ok (.ifCond .eq 40, 3) := by decide +kernel
theorem d_MO_fetch_48 : decode b_MO_fetch 48 = .ok (.aload_n 0, 1) := by decide +kernel
theorem d_MO_fetch_49 : decode b_MO_fetch 49 = .ok (.getfield 13, 3) := by decide +kernel
theorem d_MO_fetch_52 : decode b_MO_fetch 52 = .ok (.aload_n 0, 1) := by decide +kernel
theorem d_MO_fetch_53 : decode b_MO_fetch 53 = .ok (.aload_n 0, 1) := by decide +kernel
theorem d_MO_fetch_54 : decode b_MO_fetch 54 = .ok (.getfield 65, 3) := by decide +kernel
theorem d_MO_fetch_57 : decode b_MO_fetch 57 = .ok (.iload_n 1, 1) := by decide +kernel
theorem d_MO_fetch_58 : decode b_MO_fetch 58 = .ok (.iadd, 1) := by decide +kernel
theorem d_MO_fetch_59 : decode b_MO_fetch 59 = .ok (.invokevirtual 46, 3) := by decide +kernel
theorem d_MO_fetch_62 : decode b_MO_fetch 62 = .ok (.ifCond .eq 12, 3) := by decide +kernel
theorem d_MO_fetch_65 : decode b_MO_fetch 65 = .ok (.aload_n 0, 1) := by decide +kernel
theorem d_MO_fetch_66 : decode b_MO_fetch 66 = .ok (.getfield 65, 3) := by decide +kernel
theorem d_MO_fetch_69 : decode b_MO_fetch 69 = .ok (.iload_n 1, 1) := by decide +kernel
theorem d_MO_fetch_70 : decode b_MO_fetch 70 = .ok (.iadd, 1) := by decide +kernel
theorem d_MO_fetch_71 : decode b_MO_fetch 71 = .ok (.goto 4, 3) := by decide +kernel
theorem d_MO_fetch_74 : decode b_MO_fetch 74 = .ok (.iconst 0, 1) := by decide +kernel
theorem d_MO_fetch_75 : decode b_MO_fetch 75 = .ok (.baload, 1) := by decide +kernel
theorem d_MO_fetch_76 : decode b_MO_fetch 76 = .ok (.ifCond .ne 9, 3) := by decide +kernel
theorem d_MO_fetch_79 : decode b_MO_fetch 79 = .ok (.iinc 1 1, 3) := by decide +kernel
theorem d_MO_fetch_82 : decode b_MO_fetch 82 = .ok (.goto (-53), 3) := by decide +kernel
theorem d_MO_fetch_85 : decode b_MO_fetch 85 = .ok (.iload_n 1, 1) := by decide +kernel
theorem d_MO_fetch_86 : decode b_MO_fetch 86 = .ok (.bipush 9, 2) := by decide +kernel
theorem d_MO_fetch_88 : decode b_MO_fetch 88 = .ok (.if_icmp .eq 32, 3) := by decide +kernel
theorem d_MO_fetch_91 : decode b_MO_fetch 91 = .ok (.aload_n 0, 1) := by decide +kernel
theorem d_MO_fetch_92 : decode b_MO_fetch 92 = .ok (.aload_n 0, 1) := by decide +kernel
theorem d_MO_fetch_93 : decode b_MO_fetch 93 = .ok (.getfield 65, 3) := by decide +kernel
theorem d_MO_fetch_96 : decode b_MO_fetch 96 = .ok (.iload_n 1, 1) := by decide +kernel
theorem d_MO_fetch_97 : decode b_MO_fetch 97 = .ok (.iadd, 1) := by decide +kernel
theorem d_MO_fetch_98 : decode b_MO_fetch 98 = .ok (.invokevirtual 46, 3) := by decide +kernel
theorem d_MO_fetch_101 : decode b_MO_fetch 101 = .ok (.ifCond .eq 19, 3) := by decide +kernel
theorem d_MO_fetch_104 : decode b_MO_fetch 104 = .ok (.aload_n 0, 1) := by decide +kernel
theorem d_MO_fetch_105 : decode b_MO_fetch 105 = .ok (.getfield 7, 3) := by decide +kernel
theorem d_MO_fetch_108 : decode b_MO_fetch 108 = .ok (.aload_n 0, 1) := by decide +kernel
theorem d_MO_fetch_109 : decode b_MO_fetch 109 = .ok (.getfield 65, 3) := by decide +kernel
theorem d_MO_fetch_112 : decode b_MO_fetch 112 = .ok (.baload, 1) := by decide +kernel
theorem d_MO_fetch_113 : decode b_MO_fetch 113 = .ok (.iload_n 1, 1) := by decide +kernel
theorem d_MO_fetch_114 : decode b_MO_fetch 114 = .ok (.invokestatic 158, 3) := by decide +kernel
theorem d_MO_fetch_117 : decode b_MO_fetch 117 = .ok (.ifCond .ne 5, 3) := by decide +kernel
theorem d_MO_fetch_120 : decode b_MO_fetch 120 = .ok (.iconst 3, 1) := by decide +kernel
theorem d_MO_fetch_121 : decode b_MO_fetch 121 = .ok (.ireturn, 1) := by decide +kernel
theorem d_MO_fetch_122 : decode b_MO_fetch 122 = .ok (.aload_n 0, 1) := by decide +kernel
theorem d_MO_fetch_123 : decode b_MO_fetch 123 = .ok (.aload_n 0, 1) := by decide +kernel
theorem d_MO_fetch_124 : decode b_MO_fetch 124 = .ok (.getfield 65, 3) := by decide +kernel
theorem d_MO_fetch_127 : decode b_MO_fetch 127 = .ok (.putfield 125, 3) := by decide +kernel
theorem d_MO_fetch_130 : decode b_MO_fetch 130 = .ok (.aload_n 0, 1) := by decide +kernel
theorem d_MO_fetch_131 : decode b_MO_fetch 131 = .ok (.iload_n 1, 1) := by decide +kernel
theorem d_MO_fetch_132 : decode b_MO_fetch 132 = .ok (.putfield 119, 3) := by decide +kernel
theorem d_MO_fetch_135 : decode b_MO_fetch 135 = .ok (.aload_n 0, 1) := by decide +kernel
theorem d_MO_fetch_136 : decode b_MO_fetch 136 = .ok (.aload_n 0, 1) := by decide +kernel
theorem d_MO_fetch_137 : decode b_MO_fetch 137 = .ok (.getfield 7, 3) := by decide +kernel
theorem d_MO_fetch_140 : decode b_MO_fetch 140 = .ok (.aload_n 0, 1) := by decide +kernel
theorem d_MO_fetch_141 : decode b_MO_fetch 141 = .ok (.getfield 65, 3) := by decide +kernel
theorem d_MO_fetch_144 : decode b_MO_fetch 144 = .ok (.baload, 1) := by decide +kernel
theorem d_MO_fetch_145 : decode b_MO_fetch 145 = .ok (.putfield 91, 3) := by decide +kernel
theorem d_MO_fetch_148 : decode b_MO_fetch 148 = .ok (.aload_n 0, 1) := by decide +kernel
theorem d_MO_fetch_149 : decode b_MO_fetch 149 = .ok (.aload_n 0, 1) := by decide +kernel
theorem d_MO_fetch_150 : decode b_MO_fetch 150 = .ok (.getfield 85, 3) := by decide +kernel
theorem d_MO_fetch_153 : decode b_MO_fetch 153 = .ok (.putfield 149, 3) := by decide +kernel
theorem d_MO_fetch_156 : decode b_MO_fetch 156 = .ok (.aload_n 0, 1) := by decide +kernel
theorem d_MO_fetch_157 : decode b_MO_fetch 157 = .ok (.aload_n 0, 1) := by decide +kernel
theorem d_MO_fetch_158 : decode b_MO_fetch 158 = .ok (.getfield 75, 3) := by decide +kernel
theorem d_MO_fetch_161 : decode b_MO_fetch 161 = .ok (.putfield 152, 3) := by decide +kernel
theorem d_MO_fetch_164 : decode b_MO_fetch 164 = .ok (.aload_n 0, 1) := by decide +kernel
theorem d_MO_fetch_165 : decode b_MO_fetch 165 = .ok (.dup, 1) := by decide +kernel
theorem d_MO_fetch_166 : decode b_MO_fetch 166 = .ok (.getfield 65, 3) := by decide +kernel
theorem d_MO_fetch_169 : decode b_MO_fetch 169 = .ok (.iload_n 1, 1) := by decide +kernel
theorem d_MO_fetch_170 : decode b_MO_fetch 170 = .ok (.iadd, 1) := by decide +kernel
theorem d_MO_fetch_171 : decode b_MO_fetch 171 = .ok (.putfield 65, 3) := by decide +kernel
theorem d_MO_fetch_174 : decode b_MO_fetch 174 = .ok (.iload_n 1, 1) := by decide +kernel
theorem d_MO_fetch_175 : decode b_MO_fetch 175 = .ok (.iconst 4, 1) := by decide +kernel
theorem d_MO_fetch_176 : decode b_MO_fetch 176 = .ok (.if_icmp .lt 17, 3) := by decide +kernel
theorem d_MO_fetch_179 : decode b_MO_fetch 179 = .ok (.aload_n 0, 1) := by decide +kernel
theorem d_MO_fetch_180 : decode b_MO_fetch 180 = .ok (.aload_n 0, 1) := by decide +kernel
theorem d_MO_fetch_181 : decode b_MO_fetch 181 = .ok (.aload_n 0, 1) := by decide +kernel
theorem d_MO_fetch_182 : decode b_MO_fetch 182 = .ok (.getfield 125, 3) := by decide +kernel
theorem d_MO_fetch_185 : decode b_MO_fetch 185 = .ok (.iconst 1, 1) := by decide +kernel
theorem d_MO_fetch_186 : decode b_MO_fetch 186 = .ok (.iadd, 1) := by decide +kernel
theorem d_MO_fetch_187 : decode b_MO_fetch 187 = .ok (.invokevirtual 162, 3) := by decide +kernel
theorem d_MO_fetch_190 : decode b_MO_fetch 190 = .ok (.putfield 85, 3) := by decide +kernel
theorem d_MO_fetch_193 : decode b_MO_fetch 193 = .ok (.aload_n 0, 1) := by decide +kernel
theorem d_MO_fetch_194 : decode b_MO_fetch 194 = .ok (.getfield 91, 3) := by decide +kernel
theorem d_MO_fetch_197 : decode b_MO_fetch 197 = .ok (.bipush 36, 2) := by decide +kernel
theorem d_MO_fetch_199 : decode b_MO_fetch 199 = .ok (.if_icmp .eq 48, 3) := by decide +kernel
theorem d_MO_fetch_202 : decode b_MO_fetch 202 = .ok (.aload_n 0, 1) := by decide +kernel
theorem d_MO_fetch_203 : decode b_MO_fetch 203 = .ok (.getfield 91, 3) := by decide +kernel
theorem d_MO_fetch_206 : decode b_MO_fetch 206 = .ok (.bipush 35, 2) := by decide +kernel
theorem d_MO_fetch_208 : decode b_MO_fetch 208 = .ok (.if_icmp .eq 39, 3) := by decide +kernel
theorem d_MO_fetch_211 : decode b_MO_fetch 211 = .ok (.aload_n 0, 1) := by decide +kernel
theorem d_MO_fetch_212 : decode b_MO_fetch 212 = .ok (.getfield 91, 3) := by decide +kernel
theorem d_MO_fetch_215 : decode b_MO_fetch 215 = .ok (.bipush 52, 2) := by decide +kernel
theorem d_MO_fetch_217 : decode b_MO_fetch 217 = .ok (.if_icmp .eq 30, 3) := by decide +kernel
theorem d_MO_fetch_220 : decode b_MO_fetch 220 = .ok (.aload_n 0, 1) := by decide +kernel
theorem d_MO_fetch_221 : decode b_MO_fetch 221 = .ok (.getfield 91, 3) := by decide +kernel
theorem d_MO_fetch_224 : decode b_MO_fetch 224 = .ok (.bipush 24, 2) := by decide +kernel
theorem d_MO_fetch_226 : decode b_MO_fetch 226 = .ok (.if_icmp .eq 21, 3) := by decide +kernel
theorem d_MO_fetch_229 : decode b_MO_fetch 229 = .ok (.aload_n 0, 1) := by decide +kernel
theorem d_MO_fetch_230 : decode b_MO_fetch 230 = .ok (.getfield 91, 3) := by decide +kernel
theorem d_MO_fetch_233 : decode b_MO_fetch 233 = .ok (.bipush 40, 2) := by decide +kernel
theorem d_MO_fetch_235 : decode b_MO_fetch 235 = .ok (.if_icmp .eq 12, 3) := by decide +kernel
theorem d_MO_fetch_238 : decode b_MO_fetch 238 = .ok (.aload_n 0, 1) := by decide +kernel
theorem d_MO_fetch_239 : decode b_MO_fetch 239 = .ok (.getfield 91, 3) := by decide +kernel
theorem d_MO_fetch_242 : decode b_MO_fetch 242 = .ok (.bipush 56, 2) := by decide +kernel
theorem d_MO_fetch_244 : decode b_MO_fetch 244 = .ok (.if_icmp .ne 7, 3) := by decide +kernel
theorem d_MO_fetch_247 : decode b_MO_fetch 247 = .ok (.iconst 1, 1) := by decide +kernel
theorem d_MO_fetch_248 : decode b_MO_fetch 248 = .ok (.goto 4, 3) := by decide +kernel
theorem d_MO_fetch_251 : decode b_MO_fetch 251 = .ok (.iconst 0, 1) := by decide +kernel
theorem d_MO_fetch_252 : decode b_MO_fetch 252 = .ok (.istore_n 2, 1) := by decide +kernel
theorem d_MO_fetch_253 : decode b_MO_fetch 253 = .ok (.iload_n 1, 1) := by decide +kernel
theorem d_MO_fetch_254 : decode b_MO_fetch 254 = .ok (.bipush 7, 2) := by decide +kernel
theorem d_MO_fetch_256 : decode b_MO_fetch 256 = .ok (.if_icmp .lt 20, 3) := by decide +kernel
theorem d_MO_fetch_259 : decode b_MO_fetch 259 = .ok (.aload_n 0, 1) := by decide +kernel
theorem d_MO_fetch_260 : decode b_MO_fetch 260 = .ok (.aload_n 0, 1) := by decide +kernel
theorem d_MO_fetch_261 : decode b_MO_fetch 261 = .ok (.aload_n 0, 1) := by decide +kernel
theorem d_MO_fetch_262 : decode b_MO_fetch 262 = .ok (.getfield 125, 3) := by decide +kernel
theorem d_MO_fetch_265 : decode b_MO_fetch 265 = .ok (.iconst 4, 1) := by decide +kernel
theorem d_MO_fetch_266 : decode b_MO_fetch 266 = .ok (.iadd, 1) := by decide +kernel
theorem d_MO_fetch_267 : decode b_MO_fetch 267 = .ok (.invokevirtual 162, 3) := by decide +kernel
theorem d_MO_fetch_270 : decode b_MO_fetch 270 = .ok (.putfield 75, 3) := by decide +kernel
theorem d_MO_fetch_273 : decode b_MO_fetch 273 = .ok (.goto 20, 3) := by decide +kernel
theorem d_MO_fetch_276 : decode b_MO_fetch 276 = .ok (.iload_n 1, 1) := by decide +kernel
theorem d_MO_fetch_277 : decode b_MO_fetch 277 = .ok (.iconst 4, 1) := by decide +kernel
theorem d_MO_fetch_278 : decode b_MO_fetch 278 = .ok (.if_icmp .lt 15, 3) := by decide +kernel
theorem d_MO_fetch_281 : decode b_MO_fetch 281 = .ok (.iload_n 2, 1) := by decide +kernel
theorem d_MO_fetch_282 : decode b_MO_fetch 282 = .ok (.ifCond .ne 11, 3) := by decide +kernel
theorem d_MO_fetch_285 : decode b_MO_fetch 285 = .ok (.aload_n 0, 1) := by decide +kernel
theorem d_MO_fetch_286 : decode b_MO_fetch 286 = .ok (.aload_n 0, 1) := by decide +kernel
theorem d_MO_fetch_287 : decode b_MO_fetch 287 = .ok (.getfield 85, 3) := by decide +kernel
theorem d_MO_fetch_290 : decode b_MO_fetch 290 = .ok (.putfield 75, 3) := by decide +kernel
theorem d_MO_fetch_293 : decode b_MO_fetch 293 = .ok (.iconst 0, 1) := by decide +kernel
theorem d_MO_fetch_294 : decode b_MO_fetch 294 = .ok (.ireturn, 1) := by decide +kernel
theorem d_MO_stopHere_0 : decode b_MO_stopHere 0 = .ok (.aload_n 0, 1) := by decide +kernel
theorem d_MO_stopHere_1 : decode b_MO_stopHere 1 = .ok (.getfield 119, 3) := by decide +kernel
theorem d_MO_stopHere_4 : decode b_MO_stopHere 4 = .ok (.iconst 4, 1) := by decide +kernel
theorem d_MO_stopHere_5 : decode b_MO_stopHere 5 = .ok (.if_icmp .ne 7, 3) := by decide +kernel
theorem d_MO_stopHere_8 : decode b_MO_stopHere 8 = .ok (.aload_n 0, 1) := by decide +kernel
theorem d_MO_stopHere_9 : decode b_MO_stopHere 9 = .ok (.invokevirtual 122, 3) := by decide +kernel
theorem d_MO_stopHere_12 : decode b_MO_stopHere 12 = .ok (.bipush 6, 2) := by decide +kernel
theorem d_MO_stopHere_14 : decode b_MO_stopHere 14 = .ok (.ireturn, 1) := by decide +kernel
theorem d_MO_execute_0 : decode b_MO_execute 0 = .ok (.aload_n 0, 1) := by decide +kernel
theorem d_MO_execute_1 : decode b_MO_execute 1 = .ok (.getfield 91, 3) := by decide +kernel
theorem d_MO_execute_4 : decode b_MO_execute 4 = .ok (.invokestatic 155, 3) := by decide +kernel
theorem d_MO_execute_7 : decode b_MO_execute 7 = .ok (.ifCond .eq 33, 3) := by decide +kernel
theorem d_MO_execute_10 : decode b_MO_execute 10 = .ok (.aload_n 0, 1) := by decide +kernel
theorem d_MO_execute_11 : decode b_MO_execute 11 = .ok (.getfield 91, 3) := by decide +kernel
theorem d_MO_execute_14 : decode b_MO_execute 14 = .ok (.bipush 49, 2) := by decide +kernel
theorem d_MO_execute_16 : decode b_MO_execute 16 = .ok (.if_icmp .eq 12, 3) := by decide +kernel
theorem d_MO_execute_19 : decode b_MO_execute 19 = .ok (.aload_n 0, 1) := by decide +kernel
theorem d_MO_execute_20 : decode b_MO_execute 20 = .ok (.getfield 91, 3) := by decide +kernel
theorem d_MO_execute_23 : decode b_MO_execute 23 = .ok (.bipush 18, 2) := by decide +kernel
theorem d_MO_execute_25 : decode b_MO_execute 25 = .ok (.if_icmp .ne 10, 3) := by decide +kernel
theorem d_MO_execute_28 : decode b_MO_execute 28 = .ok (.aload_n 0, 1) := by decide +kernel
theorem d_MO_execute_29 : decode b_MO_execute 29 = .ok (.invokevirtual 165, 3) := by decide +kernel
theorem d_MO_execute_32 : decode b_MO_execute 32 = .ok (.goto 7, 3) := by decide +kernel
theorem d_MO_execute_35 : decode b_MO_execute 35 = .ok (.aload_n 0, 1) := by decide +kernel
theorem d_MO_execute_36 : decode b_MO_execute 36 = .ok (.invokevirtual 168, 3) := by decide +kernel
theorem d_MO_execute_39 : decode b_MO_execute 39 = .ok (.ireturn, 1) := by decide +kernel
theorem d_MO_execute_40 : decode b_MO_execute 40 = .ok (.aload_n 0, 1) := by decide +kernel
theorem d_MO_execute_41 : decode b_MO_execute 41 = .ok (.getfield 91, 3) := by decide +kernel
theorem d_MO_execute_44 : decode b_MO_execute 44 = .ok (.tableswitch 316 1 60 #[301, 301, 316, 301, 316, 316, 316, 316, 316, 316, 316, 316, 316, 316, 316, 316, 281, 316, 316, 316, 296, 316, 316, 266, 286, 316, 276, 316, 316, 316, 316, 316, 316, 316, 261, 256, 316, 316, 316, 306, 316, 316, 316, 316, 316, 316, 316, 316, 316, 291, 271, 266, 316, 316, 316, 306, 316, 316, 311, 276], 256) := by decide +kernel
theorem d_MO_execute_300 : decode b_MO_execute 300 = .ok (.aload_n 0, 1) := by decide +kernel
theorem d_MO_execute_301 : decode b_MO_execute 301 = .ok (.invokevirtual 171, 3) := by decide +kernel
theorem d_MO_execute_304 : decode b_MO_execute 304 = .ok (.ireturn, 1) := by decide +kernel
theorem d_MO_execute_305 : decode b_MO_execute 305 = .ok (.aload_n 0, 1) := by decide +kernel
theorem d_MO_execute_306 : decode b_MO_execute 306 = .ok (.invokevirtual 174, 3) := by decide +kernel
theorem d_MO_execute_309 : decode b_MO_execute 309 = .ok (.ireturn, 1) := by decide +kernel
theorem d_MO_execute_310 : decode b_MO_execute 310 = .ok (.aload_n 0, 1) := by decide +kernel
theorem d_MO_execute_311 : decode b_MO_execute 311 = .ok (.invokevirtual 177, 3) := by decide +kernel
theorem d_MO_execute_314 : decode b_MO_execute 314 = .ok (.ireturn, 1) := by decide +kernel
theorem d_MO_execute_315 : decode b_MO_execute 315 = .ok (.aload_n 0, 1) := by decide +kernel
theorem d_MO_execute_316 : decode b_MO_execute 316 = .ok (.invokevirtual 180, 3) := by decide +kernel
theorem d_MO_execute_319 : decode b_MO_execute 319 = .ok (.ireturn, 1) := by decide +kernel
theorem d_MO_execute_320 : decode b_MO_execute 320 = .ok (.aload_n 0, 1) := by decide +kernel
theorem d_MO_execute_321 : decode b_MO_execute 321 = .ok (.invokevirtual 183, 3) := by decide +kernel
theorem d_MO_execute_324 : decode b_MO_execute 324 = .ok (.ireturn, 1) := by decide +kernel
theorem d_MO_execute_325 : decode b_MO_execute 325 = .ok (.aload_n 0, 1) := by decide +kernel
theorem d_MO_execute_326 : decode b_MO_execute 326 = .ok (.invokevirtual 186, 3) := by decide +kernel
theorem d_MO_execute_329 : decode b_MO_execute 329 = .ok (.ireturn, 1) := by decide +kernel
theorem d_MO_execute_330 : decode b_MO_execute 330 = .ok (.aload_n 0, 1) := by decide +kernel
theorem d_MO_execute_331 : decode b_MO_execute 331 = .ok (.invokevirtual 189, 3) := by decide +kernel
theorem d_MO_execute_334 : decode b_MO_execute 334 = .ok (.ireturn, 1) := by decide +kernel
theorem d_MO_execute_335 : decode b_MO_execute 335 = .ok (.aload_n 0, 1) := by decide +kernel
theorem d_MO_execute_336 : decode b_MO_execute 336 = .ok (.invokevirtual 192, 3) := by decide +kernel
theorem d_MO_execute_339 : decode b_MO_execute 339 = .ok (.ireturn, 1) := by decide +kernel
theorem d_MO_execute_340 : decode b_MO_execute 340 = .ok (.aload_n 0, 1) := by decide +kernel
theorem d_MO_execute_341 : decode b_MO_execute 341 = .ok (.invokevirtual 195, 3) := by decide +kernel
theorem d_MO_execute_344 : decode b_MO_execute 344 = .ok (.ireturn, 1) := by decide +kernel
theorem d_MO_execute_345 : decode b_MO_execute 345 = .ok (.aload_n 0, 1) := by decide +kernel
theorem d_MO_execute_346 : decode b_MO_execute 346 = .ok (.invokevirtual 198, 3) := by decide +kernel
theorem d_MO_execute_349 : decode b_MO_execute 349 = .ok (.ireturn, 1) := by decide +kernel
theorem d_MO_execute_350 : decode b_MO_execute 350 = .ok (.aload_n 0, 1) := by decide +kernel
theorem d_MO_execute_351 : decode b_MO_execute 351 = .ok (.invokevirtual 201, 3) := by decide +kernel
theorem d_MO_execute_354 : decode b_MO_execute 354 = .ok (.ireturn, 1) := by decide +kernel
theorem d_MO_execute_355 : decode b_MO_execute 355 = .ok (.aload_n 0, 1) := by decide +kernel
theorem d_MO_execute_356 : decode b_MO_execute 356 = .ok (.invokevirtual 204, 3) := by decide +kernel
theorem d_MO_execute_359 : decode b_MO_execute 359 = .ok (.ireturn, 1) := by decide +kernel
theorem d_MO_execute_360 : decode b_MO_execute 360 = .ok (.iconst 0, 1) := by decide +kernel
theorem d_MO_execute_361 : decode b_MO_execute 361 = .ok (.ireturn, 1) := by decide +kernel
theorem d_MO_run_0 : decode b_MO_run 0 = .ok (.aload_n 0, 1) := by decide +kernel
theorem d_MO_run_1 : decode b_MO_run 1 = .ok (.iload_n 1, 1) := by decide +kernel
theorem d_MO_run_2 : decode b_MO_run 2 = .ok (.iconst 1, 1) := by decide +kernel
theorem d_MO_run_3 : decode b_MO_run 3 = .ok (.if_icmp .lt 10, 3) := by decide +kernel
theorem d_MO_run_6 : decode b_MO_run 6 = .ok (.iload_n 1, 1) := by decide +kernel
theorem d_MO_run_7 : decode b_MO_run 7 = .ok (.sipush 20000, 3) := by decide +kernel
theorem d_MO_run_10 : decode b_MO_run 10 = .ok (.if_icmp .le 7, 3) := by decide +kernel
theorem d_MO_run_13 : decode b_MO_run 13 = .ok (.iconst 1, 1) := by decide +kernel
theorem d_MO_run_14 : decode b_MO_run 14 = .ok (.goto 4, 3) := by decide +kernel
theorem d_MO_run_17 : decode b_MO_run 17 = .ok (.iconst 0, 1) := by decide +kernel
theorem d_MO_run_18 : decode b_MO_run 18 = .ok (.putfield 43, 3) := by decide +kernel
theorem d_MO_run_21 : decode b_MO_run 21 = .ok (.aload_n 0, 1) := by decide +kernel
theorem d_MO_run_22 : decode b_MO_run 22 = .ok (.getfield 43, 3) := by decide +kernel
theorem d_MO_run_25 : decode b_MO_run 25 = .ok (.ifCond .le 5, 3) := by decide +kernel
theorem d_MO_run_28 : decode b_MO_run 28 = .ok (.iconst 0, 1) := by decide +kernel
theorem d_MO_run_29 : decode b_MO_run 29 = .ok (.ireturn, 1) := by decide +kernel
theorem d_MO_run_30 : decode b_MO_run 30 = .ok (.aload_n 0, 1) := by decide +kernel
theorem d_MO_run_31 : decode b_MO_run 31 = .ok (.iconst 0, 1) := by decide +kernel
theorem d_MO_run_32 : decode b_MO_run 32 = .ok (.putfield 207, 3) := by decide +kernel
theorem d_MO_run_35 : decode b_MO_run 35 = .ok (.iconst 0, 1) := by decide +kernel
theorem d_MO_run_36 : decode b_MO_run 36 = .ok (.istore_n 2, 1) := by decide +kernel
theorem d_MO_run_37 : decode b_MO_run 37 = .ok (.iload_n 2, 1) := by decide +kernel
theorem d_MO_run_38 : decode b_MO_run 38 = .ok (.iload_n 1, 1) := by decide +kernel
theorem d_MO_run_39 : decode b_MO_run 39 = .ok (.if_icmp .ge 56, 3) := by decide +kernel
theorem d_MO_run_42 : decode b_MO_run 42 = .ok (.aload_n 0, 1) := by decide +kernel
theorem d_MO_run_43 : decode b_MO_run 43 = .ok (.getfield 207, 3) := by decide +kernel
theorem d_MO_run_46 : decode b_MO_run 46 = .ok (.ifCond .ne 49, 3) := by decide +kernel
theorem d_MO_run_49 : decode b_MO_run 49 = .ok (.aload_n 0, 1) := by decide +kernel
theorem d_MO_run_50 : decode b_MO_run 50 = .ok (.dup, 1) := by decide +kernel
theorem d_MO_run_51 : decode b_MO_run 51 = .ok (.getfield 210, 3) := by decide +kernel
theorem d_MO_run_54 : decode b_MO_run 54 = .ok (.iconst 1, 1) := by decide +kernel
theorem d_MO_run_55 : decode b_MO_run 55 = .ok (.iadd, 1) := by decide +kernel
theorem d_MO_run_56 : decode b_MO_run 56 = .ok (.putfield 210, 3) := by decide +kernel
theorem d_MO_run_59 : decode b_MO_run 59 = .ok (.aload_n 0, 1) := by decide +kernel
theorem d_MO_run_60 : decode b_MO_run 60 = .ok (.aload_n 0, 1) := by decide +kernel
theorem d_MO_run_61 : decode b_MO_run 61 = .ok (.invokevirtual 213, 3) := by decide +kernel
theorem d_MO_run_64 : decode b_MO_run 64 = .ok (.putfield 207, 3) := by decide +kernel
theorem d_MO_run_67 : decode b_MO_run 67 = .ok (.aload_n 0, 1) := by decide +kernel
theorem d_MO_run_68 : decode b_MO_run 68 = .ok (.aload_n 0, 1) := by decide +kernel
theorem d_MO_run_69 : decode b_MO_run 69 = .ok (.getfield 207, 3) := by decide +kernel
theorem d_MO_run_72 : decode b_MO_run 72 = .ok (.ifCond .ne 10, 3) := by decide +kernel
theorem d_MO_run_75 : decode b_MO_run 75 = .ok (.aload_n 0, 1) := by decide +kernel
theorem d_MO_run_76 : decode b_MO_run 76 = .ok (.invokevirtual 216, 3) := by decide +kernel
theorem d_MO_run_79 : decode b_MO_run 79 = .ok (.goto 7, 3) := by decide +kernel
theorem d_MO_run_82 : decode b_MO_run 82 = .ok (.aload_n 0, 1) := by decide +kernel
theorem d_MO_run_83 : decode b_MO_run 83 = .ok (.getfield 207, 3) := by decide +kernel
theorem d_MO_run_86 : decode b_MO_run 86 = .ok (.putfield 207, 3) := by decide +kernel
theorem d_MO_run_89 : decode b_MO_run 89 = .ok (.iinc 2 1, 3) := by decide +kernel
theorem d_MO_run_92 : decode b_MO_run 92 = .ok (.goto (-55), 3) := by decide +kernel
theorem d_MO_run_95 : decode b_MO_run 95 = .ok (.aload_n 0, 1) := by decide +kernel
theorem d_MO_run_96 : decode b_MO_run 96 = .ok (.getfield 207, 3) := by decide +kernel
theorem d_MO_run_99 : decode b_MO_run 99 = .ok (.ireturn, 1) := by decide +kernel
theorem d_MO_at_0 : decode b_MO_at 0 = .ok (.aload_n 0, 1) := by decide +kernel
theorem d_MO_at_1 : decode b_MO_at 1 = .ok (.aload_n 0, 1) := by decide +kernel
theorem d_MO_at_2 : decode b_MO_at 2 = .ok (.iload_n 1, 1) := by decide +kernel
theorem d_MO_at_3 : decode b_MO_at 3 = .ok (.invokevirtual 46, 3) := by decide +kernel
theorem d_MO_at_6 : decode b_MO_at 6 = .ok (.ifCond .eq 7, 3) := by decide +kernel
theorem d_MO_at_9 : decode b_MO_at 9 = .ok (.iconst 0, 1) := by decide +kernel
theorem d_MO_at_10 : decode b_MO_at 10 = .ok (.goto 4, 3) := by decide +kernel
theorem d_MO_at_13 : decode b_MO_at 13 = .ok (.iconst 1, 1) := by decide +kernel
theorem d_MO_at_14 : decode b_MO_at 14 = .ok (.putfield 43, 3) := by decide +kernel
theorem d_MO_at_17 : decode b_MO_at 17 = .ok (.aload_n 0, 1) := by decide +kernel
theorem d_MO_at_18 : decode b_MO_at 18 = .ok (.getfield 43, 3) := by decide +kernel
theorem d_MO_at_21 : decode b_MO_at 21 = .ok (.ifCond .le 7, 3) := by decide +kernel
theorem d_MO_at_24 : decode b_MO_at 24 = .ok (.iconst 0, 1) := by decide +kernel
theorem d_MO_at_25 : decode b_MO_at 25 = .ok (.goto 9, 3) := by decide +kernel
theorem d_MO_at_28 : decode b_MO_at 28 = .ok (.aload_n 0, 1) := by decide +kernel
theorem d_MO_at_29 : decode b_MO_at 29 = .ok (.getfield 7, 3) := by decide +kernel
theorem d_MO_at_32 : decode b_MO_at 32 = .ok (.iload_n 1, 1) := by decide +kernel
theorem d_MO_at_33 : decode b_MO_at 33 = .ok (.baload, 1) := by decide +kernel
theorem d_MO_at_34 : decode b_MO_at 34 = .ok (.ireturn, 1) := by decide +kernel
theorem d_MO_isMarked_0 : decode b_MO_isMarked 0 = .ok (.aload_n 0, 1) := by decide +kernel
theorem d_MO_isMarked_1 : decode b_MO_isMarked 1 = .ok (.aload_n 0, 1) := by decide +kernel
theorem d_MO_isMarked_2 : decode b_MO_isMarked 2 = .ok (.iload_n 1, 1) := by decide +kernel
theorem d_MO_isMarked_3 : decode b_MO_isMarked 3 = .ok (.invokevirtual 46, 3) := by decide +kernel
theorem d_MO_isMarked_6 : decode b_MO_isMarked 6 = .ok (.ifCond .eq 7, 3) := by decide +kernel
theorem d_MO_isMarked_9 : decode b_MO_isMarked 9 = .ok (.iconst 0, 1) := by decide +kernel
theorem d_MO_isMarked_10 : decode b_MO_isMarked 10 = .ok (.goto 4, 3) := by decide +kernel
theorem d_MO_isMarked_13 : decode b_MO_isMarked 13 = .ok (.iconst 1, 1) := by decide +kernel
theorem d_MO_isMarked_14 : decode b_MO_isMarked 14 = .ok (.putfield 43, 3) := by decide +kernel
theorem d_MO_isMarked_17 : decode b_MO_isMarked 17 = .ok (.aload_n 0, 1) := by decide +kernel
theorem d_MO_isMarked_18 : decode b_MO_isMarked 18 = .ok (.getfield 43, 3) := by decide +kernel
theorem d_MO_isMarked_21 : decode b_MO_isMarked 21 = .ok (.ifCond .ne 16, 3) := by decide +kernel
theorem d_MO_isMarked_24 : decode b_MO_isMarked 24 = .ok (.aload_n 0, 1) := by decide +kernel
theorem d_MO_isMarked_25 : decode b_MO_isMarked 25 = .ok (.getfield 13, 3) := by decide +kernel
theorem d_MO_isMarked_28 : decode b_MO_isMarked 28 = .ok (.iload_n 1, 1) := by decide +kernel
theorem d_MO_isMarked_29 : decode b_MO_isMarked 29 = .ok (.baload, 1) := by decide +kernel
theorem d_MO_isMarked_30 : decode b_MO_isMarked 30 = .ok (.ifCond .eq 7, 3) := by decide +kernel
theorem d_MO_isMarked_33 : decode b_MO_isMarked 33 = .ok (.iconst 1, 1) := by decide +kernel
theorem d_MO_isMarked_34 : decode b_MO_isMarked 34 = .ok (.goto 4, 3) := by decide +kernel
theorem d_MO_isMarked_37 : decode b_MO_isMarked 37 = .ok (.iconst 0, 1) := by decide +kernel
theorem d_MO_isMarked_38 : decode b_MO_isMarked 38 = .ok (.ireturn, 1) := by decide +kernel
theorem d_MO_state_0 : decode b_MO_state 0 = .ok (.aload_n 0, 1) := by decide +kernel
theorem d_MO_state_1 : decode b_MO_state 1 = .ok (.iconst 0, 1) := by decide +kernel
theorem d_MO_state_2 : decode b_MO_state 2 = .ok (.putfield 43, 3) := by decide +kernel
theorem d_MO_state_5 : decode b_MO_state 5 = .ok (.iload_n 1, 1) := by decide +kernel
theorem d_MO_state_6 : decode b_MO_state 6 = .ok (.tableswitch 111 0 8 #[50, 55, 60, 65, 70, 83, 96, 101, 106], 50) := by decide +kernel
theorem d_MO_state_56 : decode b_MO_state 56 = .ok (.aload_n 0, 1) := by decide +kernel
theorem d_MO_state_57 : decode b_MO_state 57 = .ok (.getfield 65, 3) := by decide +kernel
theorem d_MO_state_60 : decode b_MO_state 60 = .ok (.ireturn, 1) := by decide +kernel
theorem d_MO_state_61 : decode b_MO_state 61 = .ok (.aload_n 0, 1) := by decide +kernel
theorem d_MO_state_62 : decode b_MO_state 62 = .ok (.getfield 85, 3) := by decide +kernel
theorem d_MO_state_65 : decode b_MO_state 65 = .ok (.ireturn, 1) := by decide +kernel
theorem d_MO_state_66 : decode b_MO_state 66 = .ok (.aload_n 0, 1) := by decide +kernel
theorem d_MO_state_67 : decode b_MO_state 67 = .ok (.getfield 75, 3) := by decide +kernel
theorem d_MO_state_70 : decode b_MO_state 70 = .ok (.ireturn, 1) := by decide +kernel
theorem d_MO_state_71 : decode b_MO_state 71 = .ok (.aload_n 0, 1) := by decide +kernel
theorem d_MO_state_72 : decode b_MO_state 72 = .ok (.getfield 113, 3) := by decide +kernel
theorem d_MO_state_75 : decode b_MO_state 75 = .ok (.ireturn, 1) := by decide +kernel
theorem d_MO_state_76 : decode b_MO_state 76 = .ok (.aload_n 0, 1) := by decide +kernel
theorem d_MO_state_77 : decode b_MO_state 77 = .ok (.getfield 98, 3) := by decide +kernel
theorem d_MO_state_80 : decode b_MO_state 80 = .ok (.ifCond .eq 7, 3) := by decide +kernel
theorem d_MO_state_83 : decode b_MO_state 83 = .ok (.iconst 1, 1) := by decide +kernel
theorem d_MO_state_84 : decode b_MO_state 84 = .ok (.goto 4, 3) := by decide +kernel
theorem d_MO_state_87 : decode b_MO_state 87 = .ok (.iconst 0, 1) := by decide +kernel
theorem d_MO_state_88 : decode b_MO_state 88 = .ok (.ireturn, 1) := by decide +kernel
theorem d_MO_state_89 : decode b_MO_state 89 = .ok (.aload_n 0, 1) := by decide +kernel
theorem d_MO_state_90 : decode b_MO_state 90 = .ok (.getfield 131, 3) := by decide +kernel
theorem d_MO_state_93 : decode b_MO_state 93 = .ok (.ifCond .eq 7, 3) := by decide +kernel
theorem d_MO_state_96 : decode b_MO_state 96 = .ok (.iconst 1, 1) := by decide +kernel
theorem d_MO_state_97 : decode b_MO_state 97 = .ok (.goto 4, 3) := by decide +kernel
theorem d_MO_state_100 : decode b_MO_state 100 = .ok (.iconst 0, 1) := by decide +kernel
theorem d_MO_state_101 : decode b_MO_state 101 = .ok (.ireturn, 1) := by decide +kernel
theorem d_MO_state_102 : decode b_MO_state 102 = .ok (.aload_n 0, 1) := by decide +kernel
theorem d_MO_state_103 : decode b_MO_state 103 = .ok (.getfield 210, 3) := by decide +kernel
theorem d_MO_state_106 : decode b_MO_state 106 = .ok (.ireturn, 1) := by decide +kernel
theorem d_MO_state_107 : decode b_MO_state 107 = .ok (.aload_n 0, 1) := by decide +kernel
theorem d_MO_state_108 : decode b_MO_state 108 = .ok (.getfield 207, 3) := by decide +kernel
theorem d_MO_state_111 : decode b_MO_state 111 = .ok (.ireturn, 1) := by decide +kernel
theorem d_MO_state_112 : decode b_MO_state 112 = .ok (.aload_n 0, 1) := by decide +kernel
theorem d_MO_state_113 : decode b_MO_state 113 = .ok (.getfield 39, 3) := by decide +kernel
theorem d_MO_state_116 : decode b_MO_state 116 = .ok (.ireturn, 1) := by decide +kernel
theorem d_MO_state_117 : decode b_MO_state 117 = .ok (.iconst (-1), 1) := by decide +kernel
theorem d_MO_state_118 : decode b_MO_state 118 = .ok (.ireturn, 1) := by decide +kernel
theorem d_MO_printed_0 : decode b_MO_printed 0 = .ok (.aload_n 0, 1) := by decide +kernel
theorem d_MO_printed_1 : decode b_MO_printed 1 = .ok (.iload_n 1, 1) := by decide +kernel
theorem d_MO_printed_2 : decode b_MO_printed 2 = .ok (.ifCond .lt 27, 3) := by decide +kernel
theorem d_MO_printed_5 : decode b_MO_printed 5 = .ok (.iload_n 1, 1) := by decide +kernel
theorem d_MO_printed_6 : decode b_MO_printed 6 = .ok (.aload_n 0, 1) := by decide +kernel
theorem d_MO_printed_7 : decode b_MO_printed 7 = .ok (.getfield 134, 3) := by decide +kernel
theorem d_MO_printed_10 : decode b_MO_printed 10 = .ok (.if_icmp .ge 19, 3) := by decide +kernel
theorem d_MO_printed_13 : decode b_MO_printed 13 = .ok (.iload_n 2, 1) := by decide +kernel
theorem d_MO_printed_14 : decode b_MO_printed 14 = .ok (.iconst 1, 1) := by decide +kernel
theorem d_MO_printed_15 : decode b_MO_printed 15 = .ok (.if_icmp .lt 14, 3) := by decide +kernel
theorem d_MO_printed_18 : decode b_MO_printed 18 = .ok (.iload_n 2, 1) := by decide +kernel
theorem d_MO_printed_19 : decode b_MO_printed 19 = .ok (.sipush 132, 3) := by decide +kernel
theorem d_MO_printed_22 : decode b_MO_printed 22 = .ok (.if_icmp .gt 7, 3) := by decide +kernel
theorem d_MO_printed_25 : decode b_MO_printed 25 = .ok (.iconst 0, 1) := by decide +kernel
theorem d_MO_printed_26 : decode b_MO_printed 26 = .ok (.goto 4, 3) := by decide +kernel
theorem d_MO_printed_29 : decode b_MO_printed 29 = .ok (.iconst 1, 1) := by decide +kernel
theorem d_MO_printed_30 : decode b_MO_printed 30 = .ok (.putfield 43, 3) := by decide +kernel
theorem d_MO_printed_33 : decode b_MO_printed 33 = .ok (.aload_n 0, 1) := by decide +kernel
theorem d_MO_printed_34 : decode b_MO_printed 34 = .ok (.getfield 43, 3) := by decide +kernel
theorem d_MO_printed_37 : decode b_MO_printed 37 = .ok (.ifCond .le 7, 3) := by decide +kernel
theorem d_MO_printed_40 : decode b_MO_printed 40 = .ok (.iconst 0, 1) := by decide +kernel
theorem d_MO_printed_41 : decode b_MO_printed 41 = .ok (.goto 17, 3) := by decide +kernel
theorem d_MO_printed_44 : decode b_MO_printed 44 = .ok (.aload_n 0, 1) := by decide +kernel
theorem d_MO_printed_45 : decode b_MO_printed 45 = .ok (.getfield 23, 3) := by decide +kernel
theorem d_MO_printed_48 : decode b_MO_printed 48 = .ok (.sipush 132, 3) := by decide +kernel
theorem d_MO_printed_51 : decode b_MO_printed 51 = .ok (.iload_n 1, 1) := by decide +kernel
theorem d_MO_printed_52 : decode b_MO_printed 52 = .ok (.imul, 1) := by decide +kernel
theorem d_MO_printed_53 : decode b_MO_printed 53 = .ok (.iload_n 2, 1) := by decide +kernel
theorem d_MO_printed_54 : decode b_MO_printed 54 = .ok (.iadd, 1) := by decide +kernel
theorem d_MO_printed_55 : decode b_MO_printed 55 = .ok (.iconst 1, 1) := by decide +kernel
theorem d_MO_printed_56 : decode b_MO_printed 56 = .ok (.isub, 1) := by decide +kernel
theorem d_MO_printed_57 : decode b_MO_printed 57 = .ok (.baload, 1) := by decide +kernel
theorem d_MO_printed_58 : decode b_MO_printed 58 = .ok (.ireturn, 1) := by decide +kernel
theorem d_MO_punched_0 : decode b_MO_punched 0 = .ok (.aload_n 0, 1) := by decide +kernel
theorem d_MO_punched_1 : decode b_MO_punched 1 = .ok (.iload_n 1, 1) := by decide +kernel
theorem d_MO_punched_2 : decode b_MO_punched 2 = .ok (.ifCond .lt 26, 3) := by decide +kernel
theorem d_MO_punched_5 : decode b_MO_punched 5 = .ok (.iload_n 1, 1) := by decide +kernel
theorem d_MO_punched_6 : decode b_MO_punched 6 = .ok (.aload_n 0, 1) := by decide +kernel
theorem d_MO_punched_7 : decode b_MO_punched 7 = .ok (.getfield 137, 3) := by decide +kernel
theorem d_MO_punched_10 : decode b_MO_punched 10 = .ok (.if_icmp .ge 18, 3) := by decide +kernel
theorem d_MO_punched_13 : decode b_MO_punched 13 = .ok (.iload_n 2, 1) := by decide +kernel
theorem d_MO_punched_14 : decode b_MO_punched 14 = .ok (.iconst 1, 1) := by decide +kernel
theorem d_MO_punched_15 : decode b_MO_punched 15 = .ok (.if_icmp .lt 13, 3) := by decide +kernel
theorem d_MO_punched_18 : decode b_MO_punched 18 = .ok (.iload_n 2, 1) := by decide +kernel
theorem d_MO_punched_19 : decode b_MO_punched 19 = .ok (.bipush 80, 2) := by decide +kernel
theorem d_MO_punched_21 : decode b_MO_punched 21 = .ok (.if_icmp .gt 7, 3) := by decide +kernel
theorem d_MO_punched_24 : decode b_MO_punched 24 = .ok (.iconst 0, 1) := by decide +kernel
theorem d_MO_punched_25 : decode b_MO_punched 25 = .ok (.goto 4, 3) := by decide +kernel
theorem d_MO_punched_28 : decode b_MO_punched 28 = .ok (.iconst 1, 1) := by decide +kernel
theorem d_MO_punched_29 : decode b_MO_punched 29 = .ok (.putfield 43, 3) := by decide +kernel
theorem d_MO_punched_32 : decode b_MO_punched 32 = .ok (.aload_n 0, 1) := by decide +kernel
theorem d_MO_punched_33 : decode b_MO_punched 33 = .ok (.getfield 43, 3) := by decide +kernel
theorem d_MO_punched_36 : decode b_MO_punched 36 = .ok (.ifCond .le 7, 3) := by decide +kernel
theorem d_MO_punched_39 : decode b_MO_punched 39 = .ok (.iconst 0, 1) := by decide +kernel
theorem d_MO_punched_40 : decode b_MO_punched 40 = .ok (.goto 16, 3) := by decide +kernel
theorem d_MO_punched_43 : decode b_MO_punched 43 = .ok (.aload_n 0, 1) := by decide +kernel
theorem d_MO_punched_44 : decode b_MO_punched 44 = .ok (.getfield 26, 3) := by decide +kernel
theorem d_MO_punched_47 : decode b_MO_punched 47 = .ok (.bipush 80, 2) := by decide +kernel
theorem d_MO_punched_49 : decode b_MO_punched 49 = .ok (.iload_n 1, 1) := by decide +kernel
theorem d_MO_punched_50 : decode b_MO_punched 50 = .ok (.imul, 1) := by decide +kernel
theorem d_MO_punched_51 : decode b_MO_punched 51 = .ok (.iload_n 2, 1) := by decide +kernel
theorem d_MO_punched_52 : decode b_MO_punched 52 = .ok (.iadd, 1) := by decide +kernel
theorem d_MO_punched_53 : decode b_MO_punched 53 = .ok (.iconst 1, 1) := by decide +kernel
theorem d_MO_punched_54 : decode b_MO_punched 54 = .ok (.isub, 1) := by decide +kernel
theorem d_MO_punched_55 : decode b_MO_punched 55 = .ok (.baload, 1) := by decide +kernel
theorem d_MO_punched_56 : decode b_MO_punched 56 = .ok (.ireturn, 1) := by decide +kernel
theorem d_MO_number_0 : decode b_MO_number 0 = .ok (.aload_n 0, 1) := by decide +kernel
theorem d_MO_number_1 : decode b_MO_number 1 = .ok (.iload_n 1, 1) := by decide +kernel
theorem d_MO_number_2 : decode b_MO_number 2 = .ok (.sipush 3000, 3) := by decide +kernel
theorem d_MO_number_5 : decode b_MO_number 5 = .ok (.invokevirtual 81, 3) := by decide +kernel
theorem d_MO_number_8 : decode b_MO_number 8 = .ok (.istore_n 2, 1) := by decide +kernel
theorem d_MO_number_9 : decode b_MO_number 9 = .ok (.aload_n 0, 1) := by decide +kernel
theorem d_MO_number_10 : decode b_MO_number 10 = .ok (.iload_n 2, 1) := by decide +kernel
theorem d_MO_number_11 : decode b_MO_number 11 = .ok (.ifCond .ne 7, 3) := by decide +kernel
theorem d_MO_number_14 : decode b_MO_number 14 = .ok (.iconst 1, 1) := by decide +kernel
theorem d_MO_number_15 : decode b_MO_number 15 = .ok (.goto 14, 3) := by decide +kernel
theorem d_MO_number_18 : decode b_MO_number 18 = .ok (.iload_n 2, 1) := by decide +kernel
theorem d_MO_number_19 : decode b_MO_number 19 = .ok (.bipush 18, 2) := by decide +kernel
theorem d_MO_number_21 : decode b_MO_number 21 = .ok (.if_icmp .le 7, 3) := by decide +kernel
theorem d_MO_number_24 : decode b_MO_number 24 = .ok (.iconst 2, 1) := by decide +kernel
theorem d_MO_number_25 : decode b_MO_number 25 = .ok (.goto 4, 3) := by decide +kernel
theorem d_MO_number_28 : decode b_MO_number 28 = .ok (.iconst 0, 1) := by decide +kernel
theorem d_MO_number_29 : decode b_MO_number 29 = .ok (.putfield 43, 3) := by decide +kernel
theorem d_MO_number_32 : decode b_MO_number 32 = .ok (.lconst 0, 1) := by decide +kernel
theorem d_MO_number_33 : decode b_MO_number 33 = .ok (.lstore_n 3, 1) := by decide +kernel
theorem d_MO_number_34 : decode b_MO_number 34 = .ok (.iload_n 2, 1) := by decide +kernel
theorem d_MO_number_35 : decode b_MO_number 35 = .ok (.iconst 1, 1) := by decide +kernel
theorem d_MO_number_36 : decode b_MO_number 36 = .ok (.isub, 1) := by decide +kernel
theorem d_MO_number_37 : decode b_MO_number 37 = .ok (.istore 5, 2) := by decide +kernel
theorem d_MO_number_39 : decode b_MO_number 39 = .ok (.iload 5, 2) := by decide +kernel
theorem d_MO_number_41 : decode b_MO_number 41 = .ok (.ifCond .lt 36, 3) := by decide +kernel
theorem d_MO_number_44 : decode b_MO_number 44 = .ok (.aload_n 0, 1) := by decide +kernel
theorem d_MO_number_45 : decode b_MO_number 45 = .ok (.getfield 43, 3) := by decide +kernel
theorem d_MO_number_48 : decode b_MO_number 48 = .ok (.ifCond .ne 29, 3) := by decide +kernel
theorem d_MO_number_51 : decode b_MO_number 51 = .ok (.ldc2_w 219, 3) := by decide +kernel
theorem d_MO_number_54 : decode b_MO_number 54 = .ok (.lload_n 3, 1) := by decide +kernel
theorem d_MO_number_55 : decode b_MO_number 55 = .ok (.lmul, 1) := by decide +kernel
theorem d_MO_number_56 : decode b_MO_number 56 = .ok (.aload_n 0, 1) := by decide +kernel
theorem d_MO_number_57 : decode b_MO_number 57 = .ok (.getfield 7, 3) := by decide +kernel
theorem d_MO_number_60 : decode b_MO_number 60 = .ok (.iload_n 1, 1) := by decide +kernel
theorem d_MO_number_61 : decode b_MO_number 61 = .ok (.iload 5, 2) := by decide +kernel
theorem d_MO_number_63 : decode b_MO_number 63 = .ok (.isub, 1) := by decide +kernel
theorem d_MO_number_64 : decode b_MO_number 64 = .ok (.baload, 1) := by decide +kernel
theorem d_MO_number_65 : decode b_MO_number 65 = .ok (.invokestatic 72, 3) := by decide +kernel
theorem d_MO_number_68 : decode b_MO_number 68 = .ok (.i2l, 1) := by decide +kernel
theorem d_MO_number_69 : decode b_MO_number 69 = .ok (.ladd, 1) := by decide +kernel
theorem d_MO_number_70 : decode b_MO_number 70 = .ok (.lstore_n 3, 1) := by decide +kernel
theorem d_MO_number_71 : decode b_MO_number 71 = .ok (.iinc 5 (-1), 3) := by decide +kernel
theorem d_MO_number_74 : decode b_MO_number 74 = .ok (.goto (-35), 3) := by decide +kernel
theorem d_MO_number_77 : decode b_MO_number 77 = .ok (.aload_n 0, 1) := by decide +kernel
theorem d_MO_number_78 : decode b_MO_number 78 = .ok (.getfield 43, 3) := by decide +kernel
theorem d_MO_number_81 : decode b_MO_number 81 = .ok (.ifCond .le 7, 3) := by decide +kernel
theorem d_MO_number_84 : decode b_MO_number 84 = .ok (.lconst 0, 1) := by decide +kernel
theorem d_MO_number_85 : decode b_MO_number 85 = .ok (.goto 21, 3) := by decide +kernel
theorem d_MO_number_88 : decode b_MO_number 88 = .ok (.aload_n 0, 1) := by decide +kernel
theorem d_MO_number_89 : decode b_MO_number 89 = .ok (.getfield 7, 3) := by decide +kernel
theorem d_MO_number_92 : decode b_MO_number 92 = .ok (.iload_n 1, 1) := by decide +kernel
theorem d_MO_number_93 : decode b_MO_number 93 = .ok (.baload, 1) := by decide +kernel
theorem d_MO_number_94 : decode b_MO_number 94 = .ok (.invokestatic 88, 3) := by decide +kernel
theorem d_MO_number_97 : decode b_MO_number 97 = .ok (.ifCond .eq 8, 3) := by decide +kernel
theorem d_MO_number_100 : decode b_MO_number 100 = .ok (.lload_n 3, 1) := by decide +kernel
theorem d_MO_number_101 : decode b_MO_number 101 = .ok (.lneg, 1) := by decide +kernel
theorem d_MO_number_102 : decode b_MO_number 102 = .ok (.goto 4, 3) := by decide +kernel
theorem d_MO_number_105 : decode b_MO_number 105 = .ok (.lload_n 3, 1) := by decide +kernel
theorem d_MO_number_106 : decode b_MO_number 106 = .ok (.lreturn, 1) := by decide +kernel
theorem d_MO_count_0 : decode b_MO_count 0 = .ok (.aload_n 0, 1) := by decide +kernel
theorem d_MO_count_1 : decode b_MO_count 1 = .ok (.iconst 0, 1) := by decide +kernel
theorem d_MO_count_2 : decode b_MO_count 2 = .ok (.putfield 43, 3) := by decide +kernel
theorem d_MO_count_5 : decode b_MO_count 5 = .ok (.iconst 0, 1) := by decide +kernel
theorem d_MO_count_6 : decode b_MO_count 6 = .ok (.istore_n 2, 1) := by decide +kernel
theorem d_MO_count_7 : decode b_MO_count 7 = .ok (.iconst 0, 1) := by decide +kernel
theorem d_MO_count_8 : decode b_MO_count 8 = .ok (.istore_n 3, 1) := by decide +kernel
theorem d_MO_count_9 : decode b_MO_count 9 = .ok (.iload_n 3, 1) := by decide +kernel
theorem d_MO_count_10 : decode b_MO_count 10 = .ok (.aload_n 0, 1) := by decide +kernel
theorem d_MO_count_11 : decode b_MO_count 11 = .ok (.getfield 39, 3) := by decide +kernel
theorem d_MO_count_14 : decode b_MO_count 14 = .ok (.if_icmp .ge 26, 3) := by decide +kernel
theorem d_MO_count_17 : decode b_MO_count 17 = .ok (.iload_n 2, 1) := by decide +kernel
theorem d_MO_count_18 : decode b_MO_count 18 = .ok (.aload_n 0, 1) := by decide +kernel
theorem d_MO_count_19 : decode b_MO_count 19 = .ok (.getfield 13, 3) := by decide +kernel
theorem d_MO_count_22 : decode b_MO_count 22 = .ok (.iload_n 3, 1) := by decide +kernel
theorem d_MO_count_23 : decode b_MO_count 23 = .ok (.baload, 1) := by decide +kernel
theorem d_MO_count_24 : decode b_MO_count 24 = .ok (.ifCond .eq 7, 3) := by decide +kernel
theorem d_MO_count_27 : decode b_MO_count 27 = .ok (.iconst 1, 1) := by decide +kernel
theorem d_MO_count_28 : decode b_MO_count 28 = .ok (.goto 4, 3) := by decide +kernel
theorem d_MO_count_31 : decode b_MO_count 31 = .ok (.iconst 0, 1) := by decide +kernel
theorem d_MO_count_32 : decode b_MO_count 32 = .ok (.iadd, 1) := by decide +kernel
theorem d_MO_count_33 : decode b_MO_count 33 = .ok (.istore_n 2, 1) := by decide +kernel
theorem d_MO_count_34 : decode b_MO_count 34 = .ok (.iinc 3 1, 3) := by decide +kernel
theorem d_MO_count_37 : decode b_MO_count 37 = .ok (.goto (-28), 3) := by decide +kernel
theorem d_MO_count_40 : decode b_MO_count 40 = .ok (.iload_n 1, 1) := by decide +kernel
theorem d_MO_count_41 : decode b_MO_count 41 = .ok (.ifCond .ne 15, 3) := by decide +kernel
theorem d_MO_count_44 : decode b_MO_count 44 = .ok (.aload_n 0, 1) := by decide +kernel
theorem d_MO_count_45 : decode b_MO_count 45 = .ok (.getfield 59, 3) := by decide +kernel
theorem d_MO_count_48 : decode b_MO_count 48 = .ok (.aload_n 0, 1) := by decide +kernel
theorem d_MO_count_49 : decode b_MO_count 49 = .ok (.getfield 62, 3) := by decide +kernel
theorem d_MO_count_52 : decode b_MO_count 52 = .ok (.isub, 1) := by decide +kernel
theorem d_MO_count_53 : decode b_MO_count 53 = .ok (.goto 37, 3) := by decide +kernel
theorem d_MO_count_56 : decode b_MO_count 56 = .ok (.iload_n 1, 1) := by decide +kernel
theorem d_MO_count_57 : decode b_MO_count 57 = .ok (.iconst 1, 1) := by decide +kernel
theorem d_MO_count_58 : decode b_MO_count 58 = .ok (.if_icmp .ne 10, 3) := by decide +kernel
theorem d_MO_count_61 : decode b_MO_count 61 = .ok (.aload_n 0, 1) := by decide +kernel
theorem d_MO_count_62 : decode b_MO_count 62 = .ok (.getfield 134, 3) := by decide +kernel
theorem d_MO_count_65 : decode b_MO_count 65 = .ok (.goto 25, 3) := by decide +kernel
theorem d_MO_count_68 : decode b_MO_count 68 = .ok (.iload_n 1, 1) := by decide +kernel
theorem d_MO_count_69 : decode b_MO_count 69 = .ok (.iconst 2, 1) := by decide +kernel
theorem d_MO_count_70 : decode b_MO_count 70 = .ok (.if_icmp .ne 10, 3) := by decide +kernel
theorem d_MO_count_73 : decode b_MO_count 73 = .ok (.aload_n 0, 1) := by decide +kernel
theorem d_MO_count_74 : decode b_MO_count 74 = .ok (.getfield 137, 3) := by decide +kernel
theorem d_MO_count_77 : decode b_MO_count 77 = .ok (.goto 13, 3) := by decide +kernel
theorem d_MO_count_80 : decode b_MO_count 80 = .ok (.iload_n 1, 1) := by decide +kernel
theorem d_MO_count_81 : decode b_MO_count 81 = .ok (.iconst 3, 1) := by decide +kernel
theorem d_MO_count_82 : decode b_MO_count 82 = .ok (.if_icmp .ne 7, 3) := by decide +kernel
theorem d_MO_count_85 : decode b_MO_count 85 = .ok (.iload_n 2, 1) := by decide +kernel
theorem d_MO_count_86 : decode b_MO_count 86 = .ok (.goto 4, 3) := by decide +kernel
theorem d_MO_count_89 : decode b_MO_count 89 = .ok (.iconst (-1), 1) := by decide +kernel
theorem d_MO_count_90 : decode b_MO_count 90 = .ok (.ireturn, 1) := by decide +kernel
end
section
theorem d_LA_cell_0 : decode b_LA_cell 0 = .ok (.iload_n 1, 1) := by decide +kernel
theorem d_LA_cell_1 : decode b_LA_cell 1 = .ok (.aload_n 0, 1) := by decide +kernel
theorem d_LA_cell_2 : decode b_LA_cell 2 = .ok (.arraylength, 1) := by decide +kernel
theorem d_LA_cell_3 : decode b_LA_cell 3 = .ok (.if_icmp .ge 9, 3) := by decide +kernel
theorem d_LA_cell_6 : decode b_LA_cell 6 = .ok (.aload_n 0, 1) := by decide +kernel
theorem d_LA_cell_7 : decode b_LA_cell 7 = .ok (.iload_n 1, 1) := by decide +kernel
theorem d_LA_cell_8 : decode b_LA_cell 8 = .ok (.iaload, 1) := by decide +kernel
theorem d_LA_cell_9 : decode b_LA_cell 9 = .ok (.goto 4, 3) := by decide +kernel
theorem d_LA_cell_12 : decode b_LA_cell 12 = .ok (.iconst 0, 1) := by decide +kernel
theorem d_LA_cell_13 : decode b_LA_cell 13 = .ok (.ireturn, 1) := by decide +kernel
theorem d_LA_put_0 : decode b_LA_put 0 = .ok (.aload 5, 2) := by decide +kernel
theorem d_LA_put_2 : decode b_LA_put 2 = .ok (.iconst 0, 1) := by decide +kernel
theorem d_LA_put_3 : decode b_LA_put 3 = .ok (.aload_n 0, 1) := by decide +kernel
theorem d_LA_put_4 : decode b_LA_put 4 = .ok (.iload_n 1, 1) := by decide +kernel
theorem d_LA_put_5 : decode b_LA_put 5 = .ok (.lload_n 2, 1) := by decide +kernel
theorem d_LA_put_6 : decode b_LA_put 6 = .ok (.iload 4, 2) := by decide +kernel
theorem d_LA_put_8 : decode b_LA_put 8 = .ok (.invokevirtual 7, 3) := by decide +kernel
theorem d_LA_put_11 : decode b_LA_put 11 = .ok (.i2l, 1) := by decide +kernel
theorem d_LA_put_12 : decode b_LA_put 12 = .ok (.lastore, 1) := by decide +kernel
theorem d_LA_put_13 : decode b_LA_put 13 = .ok (.goto 7, 3) := by decide +kernel
theorem d_LA_put_16 : decode b_LA_put 16 = .ok (.astore 6, 2) := by decide +kernel
theorem d_LA_put_18 : decode b_LA_put 18 = .ok (.iconst 1, 1) := by decide +kernel
theorem d_LA_put_19 : decode b_LA_put 19 = .ok (.ireturn, 1) := by decide +kernel
theorem d_LA_put_20 : decode b_LA_put 20 = .ok (.iconst 0, 1) := by decide +kernel
theorem d_LA_put_21 : decode b_LA_put 21 = .ok (.ireturn, 1) := by decide +kernel
theorem d_LA_card_0 : decode b_LA_card 0 = .ok (.aload_n 1, 1) := by decide +kernel
theorem d_LA_card_1 : decode b_LA_card 1 = .ok (.iconst 0, 1) := by decide +kernel
theorem d_LA_card_2 : decode b_LA_card 2 = .ok (.aload_n 0, 1) := by decide +kernel
theorem d_LA_card_3 : decode b_LA_card 3 = .ok (.invokevirtual 15, 3) := by decide +kernel
theorem d_LA_card_6 : decode b_LA_card 6 = .ok (.i2l, 1) := by decide +kernel
theorem d_LA_card_7 : decode b_LA_card 7 = .ok (.lastore, 1) := by decide +kernel
theorem d_LA_card_8 : decode b_LA_card 8 = .ok (.goto 6, 3) := by decide +kernel
theorem d_LA_card_11 : decode b_LA_card 11 = .ok (.astore_n 2, 1) := by decide +kernel
theorem d_LA_card_12 : decode b_LA_card 12 = .ok (.iconst 1, 1) := by decide +kernel
theorem d_LA_card_13 : decode b_LA_card 13 = .ok (.ireturn, 1) := by decide +kernel
theorem d_LA_card_14 : decode b_LA_card 14 = .ok (.iconst 0, 1) := by decide +kernel
theorem d_LA_card_15 : decode b_LA_card 15 = .ok (.ireturn, 1) := by decide +kernel
theorem d_LA_run_0 : decode b_LA_run 0 = .ok (.aload_n 2, 1) := by decide +kernel
theorem d_LA_run_1 : decode b_LA_run 1 = .ok (.iconst 0, 1) := by decide +kernel
theorem d_LA_run_2 : decode b_LA_run 2 = .ok (.aload_n 0, 1) := by decide +kernel
theorem d_LA_run_3 : decode b_LA_run 3 = .ok (.iload_n 1, 1) := by decide +kernel
theorem d_LA_run_4 : decode b_LA_run 4 = .ok (.invokevirtual 21, 3) := by decide +kernel
theorem d_LA_run_7 : decode b_LA_run 7 = .ok (.i2l, 1) := by decide +kernel
theorem d_LA_run_8 : decode b_LA_run 8 = .ok (.lastore, 1) := by decide +kernel
theorem d_LA_run_9 : decode b_LA_run 9 = .ok (.goto 6, 3) := by decide +kernel
theorem d_LA_run_12 : decode b_LA_run 12 = .ok (.astore_n 3, 1) := by decide +kernel
theorem d_LA_run_13 : decode b_LA_run 13 = .ok (.iconst 1, 1) := by decide +kernel
theorem d_LA_run_14 : decode b_LA_run 14 = .ok (.ireturn, 1) := by decide +kernel
theorem d_LA_run_15 : decode b_LA_run 15 = .ok (.iconst 0, 1) := by decide +kernel
theorem d_LA_run_16 : decode b_LA_run 16 = .ok (.ireturn, 1) := by decide +kernel
theorem d_LA_at_0 : decode b_LA_at 0 = .ok (.aload_n 2, 1) := by decide +kernel
theorem d_LA_at_1 : decode b_LA_at 1 = .ok (.iconst 0, 1) := by decide +kernel
theorem d_LA_at_2 : decode b_LA_at 2 = .ok (.aload_n 0, 1) := by decide +kernel
theorem d_LA_at_3 : decode b_LA_at 3 = .ok (.iload_n 1, 1) := by decide +kernel
theorem d_LA_at_4 : decode b_LA_at 4 = .ok (.invokevirtual 25, 3) := by decide +kernel
theorem d_LA_at_7 : decode b_LA_at 7 = .ok (.i2l, 1) := by decide +kernel
theorem d_LA_at_8 : decode b_LA_at 8 = .ok (.lastore, 1) := by decide +kernel
theorem d_LA_at_9 : decode b_LA_at 9 = .ok (.goto 6, 3) := by decide +kernel
theorem d_LA_at_12 : decode b_LA_at 12 = .ok (.astore_n 3, 1) := by decide +kernel
theorem d_LA_at_13 : decode b_LA_at 13 = .ok (.iconst 1, 1) := by decide +kernel
theorem d_LA_at_14 : decode b_LA_at 14 = .ok (.ireturn, 1) := by decide +kernel
theorem d_LA_at_15 : decode b_LA_at 15 = .ok (.iconst 0, 1) := by decide +kernel
theorem d_LA_at_16 : decode b_LA_at 16 = .ok (.ireturn, 1) := by decide +kernel
theorem d_LA_isMarked_0 : decode b_LA_isMarked 0 = .ok (.aload_n 2, 1) := by decide +kernel
theorem d_LA_isMarked_1 : decode b_LA_isMarked 1 = .ok (.iconst 0, 1) := by decide +kernel
theorem d_LA_isMarked_2 : decode b_LA_isMarked 2 = .ok (.aload_n 0, 1) := by decide +kernel
theorem d_LA_isMarked_3 : decode b_LA_isMarked 3 = .ok (.iload_n 1, 1) := by decide +kernel
theorem d_LA_isMarked_4 : decode b_LA_isMarked 4 = .ok (.invokevirtual 30, 3) := by decide +kernel
theorem d_LA_isMarked_7 : decode b_LA_isMarked 7 = .ok (.ifCond .eq 7, 3) := by decide +kernel
theorem d_LA_isMarked_10 : decode b_LA_isMarked 10 = .ok (.lconst 1, 1) := by decide +kernel
theorem d_LA_isMarked_11 : decode b_LA_isMarked 11 = .ok (.goto 4, 3) := by decide +kernel
theorem d_LA_isMarked_14 : decode b_LA_isMarked 14 = .ok (.lconst 0, 1) := by decide +kernel
theorem d_LA_isMarked_15 : decode b_LA_isMarked 15 = .ok (.lastore, 1) := by decide +kernel
theorem d_LA_isMarked_16 : decode b_LA_isMarked 16 = .ok (.goto 6, 3) := by decide +kernel
theorem d_LA_isMarked_19 : decode b_LA_isMarked 19 = .ok (.astore_n 3, 1) := by decide +kernel
theorem d_LA_isMarked_20 : decode b_LA_isMarked 20 = .ok (.iconst 1, 1) := by decide +kernel
theorem d_LA_isMarked_21 : decode b_LA_isMarked 21 = .ok (.ireturn, 1) := by decide +kernel
theorem d_LA_isMarked_22 : decode b_LA_isMarked 22 = .ok (.iconst 0, 1) := by decide +kernel
theorem d_LA_isMarked_23 : decode b_LA_isMarked 23 = .ok (.ireturn, 1) := by decide +kernel
theorem d_LA_printed_0 : decode b_LA_printed 0 = .ok (.aload_n 3, 1) := by decide +kernel
theorem d_LA_printed_1 : decode b_LA_printed 1 = .ok (.iconst 0, 1) := by decide +kernel
theorem d_LA_printed_2 : decode b_LA_printed 2 = .ok (.aload_n 0, 1) := by decide +kernel
theorem d_LA_printed_3 : decode b_LA_printed 3 = .ok (.iload_n 1, 1) := by decide +kernel
theorem d_LA_printed_4 : decode b_LA_printed 4 = .ok (.iload_n 2, 1) := by decide +kernel
theorem d_LA_printed_5 : decode b_LA_printed 5 = .ok (.invokevirtual 34, 3) := by decide +kernel
theorem d_LA_printed_8 : decode b_LA_printed 8 = .ok (.i2l, 1) := by decide +kernel
theorem d_LA_printed_9 : decode b_LA_printed 9 = .ok (.lastore, 1) := by decide +kernel
theorem d_LA_printed_10 : decode b_LA_printed 10 = .ok (.goto 7, 3) := by decide +kernel
theorem d_LA_printed_13 : decode b_LA_printed 13 = .ok (.astore 4, 2) := by decide +kernel
theorem d_LA_printed_15 : decode b_LA_printed 15 = .ok (.iconst 1, 1) := by decide +kernel
theorem d_LA_printed_16 : decode b_LA_printed 16 = .ok (.ireturn, 1) := by decide +kernel
theorem d_LA_printed_17 : decode b_LA_printed 17 = .ok (.iconst 0, 1) := by decide +kernel
theorem d_LA_printed_18 : decode b_LA_printed 18 = .ok (.ireturn, 1) := by decide +kernel
theorem d_LA_punched_0 : decode b_LA_punched 0 = .ok (.aload_n 3, 1) := by decide +kernel
theorem d_LA_punched_1 : decode b_LA_punched 1 = .ok (.iconst 0, 1) := by decide +kernel
theorem d_LA_punched_2 : decode b_LA_punched 2 = .ok (.aload_n 0, 1) := by decide +kernel
theorem d_LA_punched_3 : decode b_LA_punched 3 = .ok (.iload_n 1, 1) := by decide +kernel
theorem d_LA_punched_4 : decode b_LA_punched 4 = .ok (.iload_n 2, 1) := by decide +kernel
theorem d_LA_punched_5 : decode b_LA_punched 5 = .ok (.invokevirtual 38, 3) := by decide +kernel
theorem d_LA_punched_8 : decode b_LA_punched 8 = .ok (.i2l, 1) := by decide +kernel
theorem d_LA_punched_9 : decode b_LA_punched 9 = .ok (.lastore, 1) := by decide +kernel
theorem d_LA_punched_10 : decode b_LA_punched 10 = .ok (.goto 7, 3) := by decide +kernel
theorem d_LA_punched_13 : decode b_LA_punched 13 = .ok (.astore 4, 2) := by decide +kernel
theorem d_LA_punched_15 : decode b_LA_punched 15 = .ok (.iconst 1, 1) := by decide +kernel
theorem d_LA_punched_16 : decode b_LA_punched 16 = .ok (.ireturn, 1) := by decide +kernel
theorem d_LA_punched_17 : decode b_LA_punched 17 = .ok (.iconst 0, 1) := by decide +kernel
theorem d_LA_punched_18 : decode b_LA_punched 18 = .ok (.ireturn, 1) := by decide +kernel
theorem d_LA_number_0 : decode b_LA_number 0 = .ok (.aload_n 2, 1) := by decide +kernel
theorem d_LA_number_1 : decode b_LA_number 1 = .ok (.iconst 0, 1) := by decide +kernel
theorem d_LA_number_2 : decode b_LA_number 2 = .ok (.aload_n 0, 1) := by decide +kernel
theorem d_LA_number_3 : decode b_LA_number 3 = .ok (.iload_n 1, 1) := by decide +kernel
theorem d_LA_number_4 : decode b_LA_number 4 = .ok (.invokevirtual 41, 3) := by decide +kernel
theorem d_LA_number_7 : decode b_LA_number 7 = .ok (.lastore, 1) := by decide +kernel
theorem d_LA_number_8 : decode b_LA_number 8 = .ok (.goto 9, 3) := by decide +kernel
theorem d_LA_number_11 : decode b_LA_number 11 = .ok (.astore_n 3, 1) := by decide +kernel
theorem d_LA_number_12 : decode b_LA_number 12 = .ok (.iconst 1, 1) := by decide +kernel
theorem d_LA_number_13 : decode b_LA_number 13 = .ok (.ireturn, 1) := by decide +kernel
theorem d_LA_number_14 : decode b_LA_number 14 = .ok (.astore_n 3, 1) := by decide +kernel
theorem d_LA_number_15 : decode b_LA_number 15 = .ok (.iconst 2, 1) := by decide +kernel
theorem d_LA_number_16 : decode b_LA_number 16 = .ok (.ireturn, 1) := by decide +kernel
theorem d_LA_number_17 : decode b_LA_number 17 = .ok (.iconst 0, 1) := by decide +kernel
theorem d_LA_number_18 : decode b_LA_number 18 = .ok (.ireturn, 1) := by decide +kernel
theorem d_LA_law_0 : decode code 0 = .ok (.new 8, 3) := by decide +kernel
theorem d_LA_law_3 : decode code 3 = .ok (.dup, 1) := by decide +kernel
theorem d_LA_law_4 : decode code 4 = .ok (.aload_n 0, 1) := by decide +kernel
theorem d_LA_law_5 : decode code 5 = .ok (.iconst 0, 1) := by decide +kernel
theorem d_LA_law_6 : decode code 6 = .ok (.invokestatic 47, 3) := by decide +kernel
theorem d_LA_law_9 : decode code 9 = .ok (.invokespecial 53, 3) := by decide +kernel
theorem d_LA_law_12 : decode code 12 = .ok (.astore_n 1, 1) := by decide +kernel
theorem d_LA_law_13 : decode code 13 = .ok (.new 56, 3) := by decide +kernel
theorem d_LA_law_16 : decode code 16 = .ok (.dup, 1) := by decide +kernel
theorem d_LA_law_17 : decode code 17 = .ok (.aload_n 0, 1) := by decide +kernel
theorem d_LA_law_18 : decode code 18 = .ok (.iconst 0, 1) := by decide +kernel
theorem d_LA_law_19 : decode code 19 = .ok (.invokestatic 47, 3) := by decide +kernel
theorem d_LA_law_22 : decode code 22 = .ok (.invokespecial 58, 3) := by decide +kernel
theorem d_LA_law_25 : decode code 25 = .ok (.astore_n 2, 1) := by decide +kernel
theorem d_LA_law_26 : decode code 26 = .ok (.iconst 1, 1) := by decide +kernel
theorem d_LA_law_27 : decode code 27 = .ok (.newarray .long, 2) := by decide +kernel
theorem d_LA_law_29 : decode code 29 = .ok (.astore_n 3, 1) := by decide +kernel
theorem d_LA_law_30 : decode code 30 = .ok (.iconst 1, 1) := by decide +kernel
theorem d_LA_law_31 : decode code 31 = .ok (.istore 4, 2) := by decide +kernel
theorem d_LA_law_33 : decode code 33 = .ok (.iload 4, 2) := by decide +kernel
theorem d_LA_law_35 : decode code 35 = .ok (.aload_n 0, 1) := by decide +kernel
theorem d_LA_law_36 : decode code 36 = .ok (.arraylength, 1) := by decide +kernel
theorem d_LA_law_37 : decode code 37 = .ok (.iconst 5, 1) := by decide +kernel
theorem d_LA_law_38 : decode code 38 = .ok (.isub, 1) := by decide +kernel
theorem d_LA_law_39 : decode code 39 = .ok (.if_icmp .gt 782, 3) := by decide +kernel
theorem d_LA_law_42 : decode code 42 = .ok (.aload_n 0, 1) := by decide +kernel
theorem d_LA_law_43 : decode code 43 = .ok (.iload 4, 2) := by decide +kernel
theorem d_LA_law_45 : decode code 45 = .ok (.iaload, 1) := by decide +kernel
theorem d_LA_law_46 : decode code 46 = .ok (.bipush 15, 2) := by decide +kernel
theorem d_LA_law_48 : decode code 48 = .ok (.iand, 1) := by decide +kernel
theorem d_LA_law_49 : decode code 49 = .ok (.tableswitch 766 0 12 #[67, 132, 244, 281, 325, 350, 406, 462, 525, 550, 618, 686, 741], 67) := by decide +kernel
theorem d_LA_law_116 : decode code 116 = .ok (.aload_n 1, 1) := by decide +kernel
theorem d_LA_law_117 : decode code 117 = .ok (.aload_n 0, 1) := by decide +kernel
theorem d_LA_law_118 : decode code 118 = .ok (.iload 4, 2) := by decide +kernel
theorem d_LA_law_120 : decode code 120 = .ok (.iconst 1, 1) := by decide +kernel
theorem d_LA_law_121 : decode code 121 = .ok (.iadd, 1) := by decide +kernel
theorem d_LA_law_122 : decode code 122 = .ok (.iaload, 1) := by decide +kernel
theorem d_LA_law_123 : decode code 123 = .ok (.aload_n 0, 1) := by decide +kernel
theorem d_LA_law_124 : decode code 124 = .ok (.iload 4, 2) := by decide +kernel
theorem d_LA_law_126 : decode code 126 = .ok (.iconst 2, 1) := by decide +kernel
theorem d_LA_law_127 : decode code 127 = .ok (.iadd, 1) := by decide +kernel
theorem d_LA_law_128 : decode code 128 = .ok (.iaload, 1) := by decide +kernel
theorem d_LA_law_129 : decode code 129 = .ok (.aload_n 0, 1) := by decide +kernel
theorem d_LA_law_130 : decode code 130 = .ok (.iload 4, 2) := by decide +kernel
theorem d_LA_law_132 : decode code 132 = .ok (.iconst 3, 1) := by decide +kernel
theorem d_LA_law_133 : decode code 133 = .ok (.iadd, 1) := by decide +kernel
theorem d_LA_law_134 : decode code 134 = .ok (.iaload, 1) := by decide +kernel
theorem d_LA_law_135 : decode code 135 = .ok (.ifCond .eq 7, 3) := by decide +kernel
theorem d_LA_law_138 : decode code 138 = .ok (.iconst 1, 1) := by decide +kernel
theorem d_LA_law_139 : decode code 139 = .ok (.goto 4, 3) := by decide +kernel
theorem d_LA_law_142 : decode code 142 = .ok (.iconst 0, 1) := by decide +kernel
theorem d_LA_law_143 : decode code 143 = .ok (.invokevirtual 59, 3) := by decide +kernel
theorem d_LA_law_146 : decode code 146 = .ok (.aload_n 2, 1) := by decide +kernel
theorem d_LA_law_147 : decode code 147 = .ok (.aload_n 0, 1) := by decide +kernel
theorem d_LA_law_148 : decode code 148 = .ok (.iload 4, 2) := by decide +kernel
theorem d_LA_law_150 : decode code 150 = .ok (.iconst 1, 1) := by decide +kernel
theorem d_LA_law_151 : decode code 151 = .ok (.iadd, 1) := by decide +kernel
theorem d_LA_law_152 : decode code 152 = .ok (.iaload, 1) := by decide +kernel
theorem d_LA_law_153 : decode code 153 = .ok (.aload_n 0, 1) := by decide +kernel
theorem d_LA_law_154 : decode code 154 = .ok (.iload 4, 2) := by decide +kernel
theorem d_LA_law_156 : decode code 156 = .ok (.iconst 2, 1) := by decide +kernel
theorem d_LA_law_157 : decode code 157 = .ok (.iadd, 1) := by decide +kernel
theorem d_LA_law_158 : decode code 158 = .ok (.iaload, 1) := by decide +kernel
theorem d_LA_law_159 : decode code 159 = .ok (.aload_n 0, 1) := by decide +kernel
theorem d_LA_law_160 : decode code 160 = .ok (.iload 4, 2) := by decide +kernel
theorem d_LA_law_162 : decode code 162 = .ok (.iconst 3, 1) := by decide +kernel
theorem d_LA_law_163 : decode code 163 = .ok (.iadd, 1) := by decide +kernel
theorem d_LA_law_164 : decode code 164 = .ok (.iaload, 1) := by decide +kernel
theorem d_LA_law_165 : decode code 165 = .ok (.ifCond .eq 7, 3) := by decide +kernel
theorem d_LA_law_168 : decode code 168 = .ok (.iconst 1, 1) := by decide +kernel
theorem d_LA_law_169 : decode code 169 = .ok (.goto 4, 3) := by decide +kernel
theorem d_LA_law_172 : decode code 172 = .ok (.iconst 0, 1) := by decide +kernel
theorem d_LA_law_173 : decode code 173 = .ok (.invokevirtual 63, 3) := by decide +kernel
theorem d_LA_law_176 : decode code 176 = .ok (.if_icmp .eq 639, 3) := by decide +kernel
theorem d_LA_law_179 : decode code 179 = .ok (.iconst 0, 1) := by decide +kernel
theorem d_LA_law_180 : decode code 180 = .ok (.ireturn, 1) := by decide +kernel
theorem d_LA_law_181 : decode code 181 = .ok (.aload_n 1, 1) := by decide +kernel
theorem d_LA_law_182 : decode code 182 = .ok (.aload_n 0, 1) := by decide +kernel
theorem d_LA_law_183 : decode code 183 = .ok (.iload 4, 2) := by decide +kernel
theorem d_LA_law_185 : decode code 185 = .ok (.iconst 1, 1) := by decide +kernel
theorem d_LA_law_186 : decode code 186 = .ok (.iadd, 1) := by decide +kernel
theorem d_LA_law_187 : decode code 187 = .ok (.iaload, 1) := by decide +kernel
theorem d_LA_law_188 : decode code 188 = .ok (.aload_n 0, 1) := by decide +kernel
theorem d_LA_law_189 : decode code 189 = .ok (.iload 4, 2) := by decide +kernel
theorem d_LA_law_191 : decode code 191 = .ok (.iconst 2, 1) := by decide +kernel
theorem d_LA_law_192 : decode code 192 = .ok (.iadd, 1) := by decide +kernel
theorem d_LA_law_193 : decode code 193 = .ok (.iaload, 1) := by decide +kernel
theorem d_LA_law_194 : decode code 194 = .ok (.i2l, 1) := by decide +kernel
theorem d_LA_law_195 : decode code 195 = .ok (.bipush 32, 2) := by decide +kernel
theorem d_LA_law_197 : decode code 197 = .ok (.lshl, 1) := by decide +kernel
theorem d_LA_law_198 : decode code 198 = .ok (.aload_n 0, 1) := by decide +kernel
theorem d_LA_law_199 : decode code 199 = .ok (.iload 4, 2) := by decide +kernel
theorem d_LA_law_201 : decode code 201 = .ok (.iconst 3, 1) := by decide +kernel
theorem d_LA_law_202 : decode code 202 = .ok (.iadd, 1) := by decide +kernel
theorem d_LA_law_203 : decode code 203 = .ok (.iaload, 1) := by decide +kernel
theorem d_LA_law_204 : decode code 204 = .ok (.i2l, 1) := by decide +kernel
theorem d_LA_law_205 : decode code 205 = .ok (.ldc2_w 64, 3) := by decide +kernel
theorem d_LA_law_208 : decode code 208 = .ok (.land, 1) := by decide +kernel
theorem d_LA_law_209 : decode code 209 = .ok (.lor, 1) := by decide +kernel
theorem d_LA_law_210 : decode code 210 = .ok (.aload_n 0, 1) := by decide +kernel
theorem d_LA_law_211 : decode code 211 = .ok (.iload 4, 2) := by decide +kernel
theorem d_LA_law_213 : decode code 213 = .ok (.iconst 4, 1) := by decide +kernel
theorem d_LA_law_214 : decode code 214 = .ok (.iadd, 1) := by decide +kernel
theorem d_LA_law_215 : decode code 215 = .ok (.iaload, 1) := by decide +kernel
theorem d_LA_law_216 : decode code 216 = .ok (.aload_n 3, 1) := by decide +kernel
theorem d_LA_law_217 : decode code 217 = .ok (.invokestatic 66, 3) := by decide +kernel
theorem d_LA_law_220 : decode code 220 = .ok (.istore 5, 2) := by decide +kernel
theorem d_LA_law_222 : decode code 222 = .ok (.aload_n 2, 1) := by decide +kernel
theorem d_LA_law_223 : decode code 223 = .ok (.aload_n 0, 1) := by decide +kernel
theorem d_LA_law_224 : decode code 224 = .ok (.iload 4, 2) := by decide +kernel
theorem d_LA_law_226 : decode code 226 = .ok (.iconst 1, 1) := by decide +kernel
theorem d_LA_law_227 : decode code 227 = .ok (.iadd, 1) := by decide +kernel
theorem d_LA_law_228 : decode code 228 = .ok (.iaload, 1) := by decide +kernel
theorem d_LA_law_229 : decode code 229 = .ok (.aload_n 0, 1) := by decide +kernel
theorem d_LA_law_230 : decode code 230 = .ok (.iload 4, 2) := by decide +kernel
theorem d_LA_law_232 : decode code 232 = .ok (.iconst 2, 1) := by decide +kernel
theorem d_LA_law_233 : decode code 233 = .ok (.iadd, 1) := by decide +kernel
theorem d_LA_law_234 : decode code 234 = .ok (.iaload, 1) := by decide +kernel
theorem d_LA_law_235 : decode code 235 = .ok (.i2l, 1) := by decide +kernel
theorem d_LA_law_236 : decode code 236 = .ok (.bipush 32, 2) := by decide +kernel
theorem d_LA_law_238 : decode code 238 = .ok (.lshl, 1) := by decide +kernel
theorem d_LA_law_239 : decode code 239 = .ok (.aload_n 0, 1) := by decide +kernel
theorem d_LA_law_240 : decode code 240 = .ok (.iload 4, 2) := by decide +kernel
theorem d_LA_law_242 : decode code 242 = .ok (.iconst 3, 1) := by decide +kernel
theorem d_LA_law_243 : decode code 243 = .ok (.iadd, 1) := by decide +kernel
theorem d_LA_law_244 : decode code 244 = .ok (.iaload, 1) := by decide +kernel
theorem d_LA_law_245 : decode code 245 = .ok (.i2l, 1) := by decide +kernel
theorem d_LA_law_246 : decode code 246 = .ok (.ldc2_w 64, 3) := by decide +kernel
theorem d_LA_law_249 : decode code 249 = .ok (.land, 1) := by decide +kernel
theorem d_LA_law_250 : decode code 250 = .ok (.lor, 1) := by decide +kernel
theorem d_LA_law_251 : decode code 251 = .ok (.aload_n 0, 1) := by decide +kernel
theorem d_LA_law_252 : decode code 252 = .ok (.iload 4, 2) := by decide +kernel
theorem d_LA_law_254 : decode code 254 = .ok (.iconst 4, 1) := by decide +kernel
theorem d_LA_law_255 : decode code 255 = .ok (.iadd, 1) := by decide +kernel
theorem d_LA_law_256 : decode code 256 = .ok (.iaload, 1) := by decide +kernel
theorem d_LA_law_257 : decode code 257 = .ok (.invokevirtual 69, 3) := by decide +kernel
theorem d_LA_law_260 : decode code 260 = .ok (.istore 6, 2) := by decide +kernel
theorem d_LA_law_262 : decode code 262 = .ok (.aload_n 2, 1) := by decide +kernel
theorem d_LA_law_263 : decode code 263 = .ok (.invokevirtual 70, 3) := by decide +kernel
theorem d_LA_law_266 : decode code 266 = .ok (.iload 5, 2) := by decide +kernel
theorem d_LA_law_268 : decode code 268 = .ok (.if_icmp .eq 5, 3) := by decide +kernel
theorem d_LA_law_271 : decode code 271 = .ok (.iconst 0, 1) := by decide +kernel
theorem d_LA_law_272 : decode code 272 = .ok (.ireturn, 1) := by decide +kernel
theorem d_LA_law_273 : decode code 273 = .ok (.iload 5, 2) := by decide +kernel
theorem d_LA_law_275 : decode code 275 = .ok (.ifCond .ne 15, 3) := by decide +kernel
theorem d_LA_law_278 : decode code 278 = .ok (.aload_n 3, 1) := by decide +kernel
theorem d_LA_law_279 : decode code 279 = .ok (.iconst 0, 1) := by decide +kernel
theorem d_LA_law_280 : decode code 280 = .ok (.laload, 1) := by decide +kernel
theorem d_LA_law_281 : decode code 281 = .ok (.iload 6, 2) := by decide +kernel
theorem d_LA_law_283 : decode code 283 = .ok (.i2l, 1) := by decide +kernel
theorem d_LA_law_284 : decode code 284 = .ok (.lcmp, 1) := by decide +kernel
theorem d_LA_law_285 : decode code 285 = .ok (.ifCond .eq 5, 3) := by decide +kernel
theorem d_LA_law_288 : decode code 288 = .ok (.iconst 0, 1) := by decide +kernel
theorem d_LA_law_289 : decode code 289 = .ok (.ireturn, 1) := by decide +kernel
theorem d_LA_law_290 : decode code 290 = .ok (.goto 525, 3) := by decide +kernel
theorem d_LA_law_293 : decode code 293 = .ok (.aload_n 1, 1) := by decide +kernel
theorem d_LA_law_294 : decode code 294 = .ok (.aload_n 0, 1) := by decide +kernel
theorem d_LA_law_295 : decode code 295 = .ok (.iload 4, 2) := by decide +kernel
theorem d_LA_law_297 : decode code 297 = .ok (.iconst 1, 1) := by decide +kernel
theorem d_LA_law_298 : decode code 298 = .ok (.iadd, 1) := by decide +kernel
theorem d_LA_law_299 : decode code 299 = .ok (.iaload, 1) := by decide +kernel
theorem d_LA_law_300 : decode code 300 = .ok (.aload_n 0, 1) := by decide +kernel
theorem d_LA_law_301 : decode code 301 = .ok (.iload 4, 2) := by decide +kernel
theorem d_LA_law_303 : decode code 303 = .ok (.iconst 2, 1) := by decide +kernel
theorem d_LA_law_304 : decode code 304 = .ok (.iadd, 1) := by decide +kernel
theorem d_LA_law_305 : decode code 305 = .ok (.iaload, 1) := by decide +kernel
theorem d_LA_law_306 : decode code 306 = .ok (.invokevirtual 73, 3) := by decide +kernel
theorem d_LA_law_309 : decode code 309 = .ok (.aload_n 2, 1) := by decide +kernel
theorem d_LA_law_310 : decode code 310 = .ok (.aload_n 0, 1) := by decide +kernel
theorem d_LA_law_311 : decode code 311 = .ok (.iload 4, 2) := by decide +kernel
theorem d_LA_law_313 : decode code 313 = .ok (.iconst 1, 1) := by decide +kernel
theorem d_LA_law_314 : decode code 314 = .ok (.iadd, 1) := by decide +kernel
theorem d_LA_law_315 : decode code 315 = .ok (.iaload, 1) := by decide +kernel
theorem d_LA_law_316 : decode code 316 = .ok (.aload_n 0, 1) := by decide +kernel
theorem d_LA_law_317 : decode code 317 = .ok (.iload 4, 2) := by decide +kernel
theorem d_LA_law_319 : decode code 319 = .ok (.iconst 2, 1) := by decide +kernel
theorem d_LA_law_320 : decode code 320 = .ok (.iadd, 1) := by decide +kernel
theorem d_LA_law_321 : decode code 321 = .ok (.iaload, 1) := by decide +kernel
theorem d_LA_law_322 : decode code 322 = .ok (.invokevirtual 77, 3) := by decide +kernel
theorem d_LA_law_325 : decode code 325 = .ok (.if_icmp .eq 490, 3) := by decide +kernel
theorem d_LA_law_328 : decode code 328 = .ok (.iconst 0, 1) := by decide +kernel
theorem d_LA_law_329 : decode code 329 = .ok (.ireturn, 1) := by decide +kernel
theorem d_LA_law_330 : decode code 330 = .ok (.aload_n 1, 1) := by decide +kernel
theorem d_LA_law_331 : decode code 331 = .ok (.aload_n 3, 1) := by decide +kernel
theorem d_LA_law_332 : decode code 332 = .ok (.invokestatic 78, 3) := by decide +kernel
theorem d_LA_law_335 : decode code 335 = .ok (.istore 5, 2) := by decide +kernel
theorem d_LA_law_337 : decode code 337 = .ok (.aload_n 2, 1) := by decide +kernel
theorem d_LA_law_338 : decode code 338 = .ok (.invokevirtual 81, 3) := by decide +kernel
theorem d_LA_law_341 : decode code 341 = .ok (.istore 6, 2) := by decide +kernel
theorem d_LA_law_343 : decode code 343 = .ok (.aload_n 2, 1) := by decide +kernel
theorem d_LA_law_344 : decode code 344 = .ok (.invokevirtual 70, 3) := by decide +kernel
theorem d_LA_law_347 : decode code 347 = .ok (.iload 5, 2) := by decide +kernel
theorem d_LA_law_349 : decode code 349 = .ok (.if_icmp .eq 5, 3) := by decide +kernel
theorem d_LA_law_352 : decode code 352 = .ok (.iconst 0, 1) := by decide +kernel
theorem d_LA_law_353 : decode code 353 = .ok (.ireturn, 1) := by decide +kernel
theorem d_LA_law_354 : decode code 354 = .ok (.iload 5, 2) := by decide +kernel
theorem d_LA_law_356 : decode code 356 = .ok (.ifCond .ne 15, 3) := by decide +kernel
theorem d_LA_law_359 : decode code 359 = .ok (.aload_n 3, 1) := by decide +kernel
theorem d_LA_law_360 : decode code 360 = .ok (.iconst 0, 1) := by decide +kernel
theorem d_LA_law_361 : decode code 361 = .ok (.laload, 1) := by decide +kernel
theorem d_LA_law_362 : decode code 362 = .ok (.iload 6, 2) := by decide +kernel
theorem d_LA_law_364 : decode code 364 = .ok (.i2l, 1) := by decide +kernel
theorem d_LA_law_365 : decode code 365 = .ok (.lcmp, 1) := by decide +kernel
theorem d_LA_law_366 : decode code 366 = .ok (.ifCond .eq 5, 3) := by decide +kernel
theorem d_LA_law_369 : decode code 369 = .ok (.iconst 0, 1) := by decide +kernel
theorem d_LA_law_370 : decode code 370 = .ok (.ireturn, 1) := by decide +kernel
theorem d_LA_law_371 : decode code 371 = .ok (.goto 444, 3) := by decide +kernel
theorem d_LA_law_374 : decode code 374 = .ok (.aload_n 1, 1) := by decide +kernel
theorem d_LA_law_375 : decode code 375 = .ok (.aload_n 0, 1) := by decide +kernel
theorem d_LA_law_376 : decode code 376 = .ok (.iload 4, 2) := by decide +kernel
theorem d_LA_law_378 : decode code 378 = .ok (.iconst 1, 1) := by decide +kernel
theorem d_LA_law_379 : decode code 379 = .ok (.iadd, 1) := by decide +kernel
theorem d_LA_law_380 : decode code 380 = .ok (.iaload, 1) := by decide +kernel
theorem d_LA_law_381 : decode code 381 = .ok (.invokevirtual 82, 3) := by decide +kernel
theorem d_LA_law_384 : decode code 384 = .ok (.aload_n 2, 1) := by decide +kernel
theorem d_LA_law_385 : decode code 385 = .ok (.aload_n 0, 1) := by decide +kernel
theorem d_LA_law_386 : decode code 386 = .ok (.iload 4, 2) := by decide +kernel
theorem d_LA_law_388 : decode code 388 = .ok (.iconst 1, 1) := by decide +kernel
theorem d_LA_law_389 : decode code 389 = .ok (.iadd, 1) := by decide +kernel
theorem d_LA_law_390 : decode code 390 = .ok (.iaload, 1) := by decide +kernel
theorem d_LA_law_391 : decode code 391 = .ok (.invokevirtual 85, 3) := by decide +kernel
theorem d_LA_law_394 : decode code 394 = .ok (.if_icmp .eq 421, 3) := by decide +kernel
theorem d_LA_law_397 : decode code 397 = .ok (.iconst 0, 1) := by decide +kernel
theorem d_LA_law_398 : decode code 398 = .ok (.ireturn, 1) := by decide +kernel
theorem d_LA_law_399 : decode code 399 = .ok (.aload_n 1, 1) := by decide +kernel
theorem d_LA_law_400 : decode code 400 = .ok (.aload_n 0, 1) := by decide +kernel
theorem d_LA_law_401 : decode code 401 = .ok (.iload 4, 2) := by decide +kernel
theorem d_LA_law_403 : decode code 403 = .ok (.iconst 1, 1) := by decide +kernel
theorem d_LA_law_404 : decode code 404 = .ok (.iadd, 1) := by decide +kernel
theorem d_LA_law_405 : decode code 405 = .ok (.iaload, 1) := by decide +kernel
theorem d_LA_law_406 : decode code 406 = .ok (.aload_n 3, 1) := by decide +kernel
theorem d_LA_law_407 : decode code 407 = .ok (.invokestatic 86, 3) := by decide +kernel
theorem d_LA_law_410 : decode code 410 = .ok (.istore 5, 2) := by decide +kernel
theorem d_LA_law_412 : decode code 412 = .ok (.aload_n 2, 1) := by decide +kernel
theorem d_LA_law_413 : decode code 413 = .ok (.aload_n 0, 1) := by decide +kernel
theorem d_LA_law_414 : decode code 414 = .ok (.iload 4, 2) := by decide +kernel
theorem d_LA_law_416 : decode code 416 = .ok (.iconst 1, 1) := by decide +kernel
theorem d_LA_law_417 : decode code 417 = .ok (.iadd, 1) := by decide +kernel
theorem d_LA_law_418 : decode code 418 = .ok (.iaload, 1) := by decide +kernel
theorem d_LA_law_419 : decode code 419 = .ok (.invokevirtual 89, 3) := by decide +kernel
theorem d_LA_law_422 : decode code 422 = .ok (.istore 6, 2) := by decide +kernel
theorem d_LA_law_424 : decode code 424 = .ok (.aload_n 2, 1) := by decide +kernel
theorem d_LA_law_425 : decode code 425 = .ok (.invokevirtual 70, 3) := by decide +kernel
theorem d_LA_law_428 : decode code 428 = .ok (.iload 5, 2) := by decide +kernel
theorem d_LA_law_430 : decode code 430 = .ok (.if_icmp .eq 5, 3) := by decide +kernel
theorem d_LA_law_433 : decode code 433 = .ok (.iconst 0, 1) := by decide +kernel
theorem d_LA_law_434 : decode code 434 = .ok (.ireturn, 1) := by decide +kernel
theorem d_LA_law_435 : decode code 435 = .ok (.iload 5, 2) := by decide +kernel
theorem d_LA_law_437 : decode code 437 = .ok (.ifCond .ne 15, 3) := by decide +kernel
theorem d_LA_law_440 : decode code 440 = .ok (.aload_n 3, 1) := by decide +kernel
theorem d_LA_law_441 : decode code 441 = .ok (.iconst 0, 1) := by decide +kernel
theorem d_LA_law_442 : decode code 442 = .ok (.laload, 1) := by decide +kernel
theorem d_LA_law_443 : decode code 443 = .ok (.iload 6, 2) := by decide +kernel
theorem d_LA_law_445 : decode code 445 = .ok (.i2l, 1) := by decide +kernel
theorem d_LA_law_446 : decode code 446 = .ok (.lcmp, 1) := by decide +kernel
theorem d_LA_law_447 : decode code 447 = .ok (.ifCond .eq 5, 3) := by decide +kernel
theorem d_LA_law_450 : decode code 450 = .ok (.iconst 0, 1) := by decide +kernel
theorem d_LA_law_451 : decode code 451 = .ok (.ireturn, 1) := by decide +kernel
theorem d_LA_law_452 : decode code 452 = .ok (.goto 363, 3) := by decide +kernel
theorem d_LA_law_455 : decode code 455 = .ok (.aload_n 1, 1) := by decide +kernel
theorem d_LA_law_456 : decode code 456 = .ok (.aload_n 0, 1) := by decide +kernel
theorem d_LA_law_457 : decode code 457 = .ok (.iload 4, 2) := by decide +kernel
theorem d_LA_law_459 : decode code 459 = .ok (.iconst 1, 1) := by decide +kernel
theorem d_LA_law_460 : decode code 460 = .ok (.iadd, 1) := by decide +kernel
theorem d_LA_law_461 : decode code 461 = .ok (.iaload, 1) := by decide +kernel
theorem d_LA_law_462 : decode code 462 = .ok (.aload_n 3, 1) := by decide +kernel
theorem d_LA_law_463 : decode code 463 = .ok (.invokestatic 90, 3) := by decide +kernel
theorem d_LA_law_466 : decode code 466 = .ok (.istore 5, 2) := by decide +kernel
theorem d_LA_law_468 : decode code 468 = .ok (.aload_n 2, 1) := by decide +kernel
theorem d_LA_law_469 : decode code 469 = .ok (.aload_n 0, 1) := by decide +kernel
theorem d_LA_law_470 : decode code 470 = .ok (.iload 4, 2) := by decide +kernel
theorem d_LA_law_472 : decode code 472 = .ok (.iconst 1, 1) := by decide +kernel
theorem d_LA_law_473 : decode code 473 = .ok (.iadd, 1) := by decide +kernel
theorem d_LA_law_474 : decode code 474 = .ok (.iaload, 1) := by decide +kernel
theorem d_LA_law_475 : decode code 475 = .ok (.invokevirtual 92, 3) := by decide +kernel
theorem d_LA_law_478 : decode code 478 = .ok (.istore 6, 2) := by decide +kernel
theorem d_LA_law_480 : decode code 480 = .ok (.aload_n 2, 1) := by decide +kernel
theorem d_LA_law_481 : decode code 481 = .ok (.invokevirtual 70, 3) := by decide +kernel
theorem d_LA_law_484 : decode code 484 = .ok (.iload 5, 2) := by decide +kernel
theorem d_LA_law_486 : decode code 486 = .ok (.if_icmp .eq 5, 3) := by decide +kernel
theorem d_LA_law_489 : decode code 489 = .ok (.iconst 0, 1) := by decide +kernel
theorem d_LA_law_490 : decode code 490 = .ok (.ireturn, 1) := by decide +kernel
theorem d_LA_law_491 : decode code 491 = .ok (.iload 5, 2) := by decide +kernel
theorem d_LA_law_493 : decode code 493 = .ok (.ifCond .ne 15, 3) := by decide +kernel
theorem d_LA_law_496 : decode code 496 = .ok (.aload_n 3, 1) := by decide +kernel
theorem d_LA_law_497 : decode code 497 = .ok (.iconst 0, 1) := by decide +kernel
theorem d_LA_law_498 : decode code 498 = .ok (.laload, 1) := by decide +kernel
theorem d_LA_law_499 : decode code 499 = .ok (.iload 6, 2) := by decide +kernel
theorem d_LA_law_501 : decode code 501 = .ok (.i2l, 1) := by decide +kernel
theorem d_LA_law_502 : decode code 502 = .ok (.lcmp, 1) := by decide +kernel
theorem d_LA_law_503 : decode code 503 = .ok (.ifCond .eq 5, 3) := by decide +kernel
theorem d_LA_law_506 : decode code 506 = .ok (.iconst 0, 1) := by decide +kernel
theorem d_LA_law_507 : decode code 507 = .ok (.ireturn, 1) := by decide +kernel
theorem d_LA_law_508 : decode code 508 = .ok (.goto 307, 3) := by decide +kernel
theorem d_LA_law_511 : decode code 511 = .ok (.aload_n 1, 1) := by decide +kernel
theorem d_LA_law_512 : decode code 512 = .ok (.aload_n 0, 1) := by decide +kernel
theorem d_LA_law_513 : decode code 513 = .ok (.iload 4, 2) := by decide +kernel
theorem d_LA_law_515 : decode code 515 = .ok (.iconst 1, 1) := by decide +kernel
theorem d_LA_law_516 : decode code 516 = .ok (.iadd, 1) := by decide +kernel
theorem d_LA_law_517 : decode code 517 = .ok (.iaload, 1) := by decide +kernel
theorem d_LA_law_518 : decode code 518 = .ok (.aload_n 3, 1) := by decide +kernel
theorem d_LA_law_519 : decode code 519 = .ok (.invokestatic 93, 3) := by decide +kernel
theorem d_LA_law_522 : decode code 522 = .ok (.istore 5, 2) := by decide +kernel
theorem d_LA_law_524 : decode code 524 = .ok (.aload_n 2, 1) := by decide +kernel
theorem d_LA_law_525 : decode code 525 = .ok (.aload_n 0, 1) := by decide +kernel
theorem d_LA_law_526 : decode code 526 = .ok (.iload 4, 2) := by decide +kernel
theorem d_LA_law_528 : decode code 528 = .ok (.iconst 1, 1) := by decide +kernel
theorem d_LA_law_529 : decode code 529 = .ok (.iadd, 1) := by decide +kernel
theorem d_LA_law_530 : decode code 530 = .ok (.iaload, 1) := by decide +kernel
theorem d_LA_law_531 : decode code 531 = .ok (.invokevirtual 95, 3) := by decide +kernel
theorem d_LA_law_534 : decode code 534 = .ok (.istore 6, 2) := by decide +kernel
theorem d_LA_law_536 : decode code 536 = .ok (.aload_n 2, 1) := by decide +kernel
theorem d_LA_law_537 : decode code 537 = .ok (.invokevirtual 70, 3) := by decide +kernel
theorem d_LA_law_540 : decode code 540 = .ok (.iload 5, 2) := by decide +kernel
theorem d_LA_law_542 : decode code 542 = .ok (.if_icmp .eq 5, 3) := by decide +kernel
theorem d_LA_law_545 : decode code 545 = .ok (.iconst 0, 1) := by decide +kernel
theorem d_LA_law_546 : decode code 546 = .ok (.ireturn, 1) := by decide +kernel
theorem d_LA_law_547 : decode code 547 = .ok (.iload 5, 2) := by decide +kernel
theorem d_LA_law_549 : decode code 549 = .ok (.ifCond .ne 22, 3) := by decide +kernel
theorem d_LA_law_552 : decode code 552 = .ok (.aload_n 3, 1) := by decide +kernel
theorem d_LA_law_553 : decode code 553 = .ok (.iconst 0, 1) := by decide +kernel
theorem d_LA_law_554 : decode code 554 = .ok (.laload, 1) := by decide +kernel
theorem d_LA_law_555 : decode code 555 = .ok (.iload 6, 2) := by decide +kernel
theorem d_LA_law_557 : decode code 557 = .ok (.ifCond .eq 7, 3) := by decide +kernel
theorem d_LA_law_560 : decode code 560 = .ok (.lconst 1, 1) := by decide +kernel
theorem d_LA_law_561 : decode code 561 = .ok (.goto 4, 3) := by decide +kernel
theorem d_LA_law_564 : decode code 564 = .ok (.lconst 0, 1) := by decide +kernel
theorem d_LA_law_565 : decode code 565 = .ok (.lcmp, 1) := by decide +kernel
theorem d_LA_law_566 : decode code 566 = .ok (.ifCond .eq 5, 3) := by decide +kernel
theorem d_LA_law_569 : decode code 569 = .ok (.iconst 0, 1) := by decide +kernel
theorem d_LA_law_570 : decode code 570 = .ok (.ireturn, 1) := by decide +kernel
theorem d_LA_law_571 : decode code 571 = .ok (.goto 244, 3) := by decide +kernel
theorem d_LA_law_574 : decode code 574 = .ok (.aload_n 1, 1) := by decide +kernel
theorem d_LA_law_575 : decode code 575 = .ok (.aload_n 0, 1) := by decide +kernel
theorem d_LA_law_576 : decode code 576 = .ok (.iload 4, 2) := by decide +kernel
theorem d_LA_law_578 : decode code 578 = .ok (.iconst 1, 1) := by decide +kernel
theorem d_LA_law_579 : decode code 579 = .ok (.iadd, 1) := by decide +kernel
theorem d_LA_law_580 : decode code 580 = .ok (.iaload, 1) := by decide +kernel
theorem d_LA_law_581 : decode code 581 = .ok (.invokevirtual 96, 3) := by decide +kernel
theorem d_LA_law_584 : decode code 584 = .ok (.aload_n 2, 1) := by decide +kernel
theorem d_LA_law_585 : decode code 585 = .ok (.aload_n 0, 1) := by decide +kernel
theorem d_LA_law_586 : decode code 586 = .ok (.iload 4, 2) := by decide +kernel
theorem d_LA_law_588 : decode code 588 = .ok (.iconst 1, 1) := by decide +kernel
theorem d_LA_law_589 : decode code 589 = .ok (.iadd, 1) := by decide +kernel
theorem d_LA_law_590 : decode code 590 = .ok (.iaload, 1) := by decide +kernel
theorem d_LA_law_591 : decode code 591 = .ok (.invokevirtual 99, 3) := by decide +kernel
theorem d_LA_law_594 : decode code 594 = .ok (.if_icmp .eq 221, 3) := by decide +kernel
theorem d_LA_law_597 : decode code 597 = .ok (.iconst 0, 1) := by decide +kernel
theorem d_LA_law_598 : decode code 598 = .ok (.ireturn, 1) := by decide +kernel
theorem d_LA_law_599 : decode code 599 = .ok (.aload_n 1, 1) := by decide +kernel
theorem d_LA_law_600 : decode code 600 = .ok (.aload_n 0, 1) := by decide +kernel
theorem d_LA_law_601 : decode code 601 = .ok (.iload 4, 2) := by decide +kernel
theorem d_LA_law_603 : decode code 603 = .ok (.iconst 1, 1) := by decide +kernel
theorem d_LA_law_604 : decode code 604 = .ok (.iadd, 1) := by decide +kernel
theorem d_LA_law_605 : decode code 605 = .ok (.iaload, 1) := by decide +kernel
theorem d_LA_law_606 : decode code 606 = .ok (.aload_n 0, 1) := by decide +kernel
theorem d_LA_law_607 : decode code 607 = .ok (.iload 4, 2) := by decide +kernel
theorem d_LA_law_609 : decode code 609 = .ok (.iconst 2, 1) := by decide +kernel
theorem d_LA_law_610 : decode code 610 = .ok (.iadd, 1) := by decide +kernel
theorem d_LA_law_611 : decode code 611 = .ok (.iaload, 1) := by decide +kernel
theorem d_LA_law_612 : decode code 612 = .ok (.aload_n 3, 1) := by decide +kernel
theorem d_LA_law_613 : decode code 613 = .ok (.invokestatic 100, 3) := by decide +kernel
theorem d_LA_law_616 : decode code 616 = .ok (.istore 5, 2) := by decide +kernel
theorem d_LA_law_618 : decode code 618 = .ok (.aload_n 2, 1) := by decide +kernel
theorem d_LA_law_619 : decode code 619 = .ok (.aload_n 0, 1) := by decide +kernel
theorem d_LA_law_620 : decode code 620 = .ok (.iload 4, 2) := by decide +kernel
theorem d_LA_law_622 : decode code 622 = .ok (.iconst 1, 1) := by decide +kernel
theorem d_LA_law_623 : decode code 623 = .ok (.iadd, 1) := by decide +kernel
theorem d_LA_law_624 : decode code 624 = .ok (.iaload, 1) := by decide +kernel
theorem d_LA_law_625 : decode code 625 = .ok (.aload_n 0, 1) := by decide +kernel
theorem d_LA_law_626 : decode code 626 = .ok (.iload 4, 2) := by decide +kernel
theorem d_LA_law_628 : decode code 628 = .ok (.iconst 2, 1) := by decide +kernel
theorem d_LA_law_629 : decode code 629 = .ok (.iadd, 1) := by decide +kernel
theorem d_LA_law_630 : decode code 630 = .ok (.iaload, 1) := by decide +kernel
theorem d_LA_law_631 : decode code 631 = .ok (.invokevirtual 103, 3) := by decide +kernel
theorem d_LA_law_634 : decode code 634 = .ok (.istore 6, 2) := by decide +kernel
theorem d_LA_law_636 : decode code 636 = .ok (.aload_n 2, 1) := by decide +kernel
theorem d_LA_law_637 : decode code 637 = .ok (.invokevirtual 70, 3) := by decide +kernel
theorem d_LA_law_640 : decode code 640 = .ok (.iload 5, 2) := by decide +kernel
theorem d_LA_law_642 : decode code 642 = .ok (.if_icmp .eq 5, 3) := by decide +kernel
theorem d_LA_law_645 : decode code 645 = .ok (.iconst 0, 1) := by decide +kernel
theorem d_LA_law_646 : decode code 646 = .ok (.ireturn, 1) := by decide +kernel
theorem d_LA_law_647 : decode code 647 = .ok (.iload 5, 2) := by decide +kernel
theorem d_LA_law_649 : decode code 649 = .ok (.ifCond .ne 15, 3) := by decide +kernel
theorem d_LA_law_652 : decode code 652 = .ok (.aload_n 3, 1) := by decide +kernel
theorem d_LA_law_653 : decode code 653 = .ok (.iconst 0, 1) := by decide +kernel
theorem d_LA_law_654 : decode code 654 = .ok (.laload, 1) := by decide +kernel
theorem d_LA_law_655 : decode code 655 = .ok (.iload 6, 2) := by decide +kernel
theorem d_LA_law_657 : decode code 657 = .ok (.i2l, 1) := by decide +kernel
theorem d_LA_law_658 : decode code 658 = .ok (.lcmp, 1) := by decide +kernel
theorem d_LA_law_659 : decode code 659 = .ok (.ifCond .eq 5, 3) := by decide +kernel
theorem d_LA_law_662 : decode code 662 = .ok (.iconst 0, 1) := by decide +kernel
theorem d_LA_law_663 : decode code 663 = .ok (.ireturn, 1) := by decide +kernel
theorem d_LA_law_664 : decode code 664 = .ok (.goto 151, 3) := by decide +kernel
theorem d_LA_law_667 : decode code 667 = .ok (.aload_n 1, 1) := by decide +kernel
theorem d_LA_law_668 : decode code 668 = .ok (.aload_n 0, 1) := by decide +kernel
theorem d_LA_law_669 : decode code 669 = .ok (.iload 4, 2) := by decide +kernel
theorem d_LA_law_671 : decode code 671 = .ok (.iconst 1, 1) := by decide +kernel
theorem d_LA_law_672 : decode code 672 = .ok (.iadd, 1) := by decide +kernel
theorem d_LA_law_673 : decode code 673 = .ok (.iaload, 1) := by decide +kernel
theorem d_LA_law_674 : decode code 674 = .ok (.aload_n 0, 1) := by decide +kernel
theorem d_LA_law_675 : decode code 675 = .ok (.iload 4, 2) := by decide +kernel
theorem d_LA_law_677 : decode code 677 = .ok (.iconst 2, 1) := by decide +kernel
theorem d_LA_law_678 : decode code 678 = .ok (.iadd, 1) := by decide +kernel
theorem d_LA_law_679 : decode code 679 = .ok (.iaload, 1) := by decide +kernel
theorem d_LA_law_680 : decode code 680 = .ok (.aload_n 3, 1) := by decide +kernel
theorem d_LA_law_681 : decode code 681 = .ok (.invokestatic 104, 3) := by decide +kernel
theorem d_LA_law_684 : decode code 684 = .ok (.istore 5, 2) := by decide +kernel
theorem d_LA_law_686 : decode code 686 = .ok (.aload_n 2, 1) := by decide +kernel
theorem d_LA_law_687 : decode code 687 = .ok (.aload_n 0, 1) := by decide +kernel
theorem d_LA_law_688 : decode code 688 = .ok (.iload 4, 2) := by decide +kernel
theorem d_LA_law_690 : decode code 690 = .ok (.iconst 1, 1) := by decide +kernel
theorem d_LA_law_691 : decode code 691 = .ok (.iadd, 1) := by decide +kernel
theorem d_LA_law_692 : decode code 692 = .ok (.iaload, 1) := by decide +kernel
theorem d_LA_law_693 : decode code 693 = .ok (.aload_n 0, 1) := by decide +kernel
theorem d_LA_law_694 : decode code 694 = .ok (.iload 4, 2) := by decide +kernel
theorem d_LA_law_696 : decode code 696 = .ok (.iconst 2, 1) := by decide +kernel
theorem d_LA_law_697 : decode code 697 = .ok (.iadd, 1) := by decide +kernel
theorem d_LA_law_698 : decode code 698 = .ok (.iaload, 1) := by decide +kernel
theorem d_LA_law_699 : decode code 699 = .ok (.invokevirtual 106, 3) := by decide +kernel
theorem d_LA_law_702 : decode code 702 = .ok (.istore 6, 2) := by decide +kernel
theorem d_LA_law_704 : decode code 704 = .ok (.aload_n 2, 1) := by decide +kernel
theorem d_LA_law_705 : decode code 705 = .ok (.invokevirtual 70, 3) := by decide +kernel
theorem d_LA_law_708 : decode code 708 = .ok (.iload 5, 2) := by decide +kernel
theorem d_LA_law_710 : decode code 710 = .ok (.if_icmp .eq 5, 3) := by decide +kernel
theorem d_LA_law_713 : decode code 713 = .ok (.iconst 0, 1) := by decide +kernel
theorem d_LA_law_714 : decode code 714 = .ok (.ireturn, 1) := by decide +kernel
theorem d_LA_law_715 : decode code 715 = .ok (.iload 5, 2) := by decide +kernel
theorem d_LA_law_717 : decode code 717 = .ok (.ifCond .ne 15, 3) := by decide +kernel
theorem d_LA_law_720 : decode code 720 = .ok (.aload_n 3, 1) := by decide +kernel
theorem d_LA_law_721 : decode code 721 = .ok (.iconst 0, 1) := by decide +kernel
theorem d_LA_law_722 : decode code 722 = .ok (.laload, 1) := by decide +kernel
theorem d_LA_law_723 : decode code 723 = .ok (.iload 6, 2) := by decide +kernel
theorem d_LA_law_725 : decode code 725 = .ok (.i2l, 1) := by decide +kernel
theorem d_LA_law_726 : decode code 726 = .ok (.lcmp, 1) := by decide +kernel
theorem d_LA_law_727 : decode code 727 = .ok (.ifCond .eq 5, 3) := by decide +kernel
theorem d_LA_law_730 : decode code 730 = .ok (.iconst 0, 1) := by decide +kernel
theorem d_LA_law_731 : decode code 731 = .ok (.ireturn, 1) := by decide +kernel
theorem d_LA_law_732 : decode code 732 = .ok (.goto 83, 3) := by decide +kernel
theorem d_LA_law_735 : decode code 735 = .ok (.aload_n 1, 1) := by decide +kernel
theorem d_LA_law_736 : decode code 736 = .ok (.aload_n 0, 1) := by decide +kernel
theorem d_LA_law_737 : decode code 737 = .ok (.iload 4, 2) := by decide +kernel
theorem d_LA_law_739 : decode code 739 = .ok (.iconst 1, 1) := by decide +kernel
theorem d_LA_law_740 : decode code 740 = .ok (.iadd, 1) := by decide +kernel
theorem d_LA_law_741 : decode code 741 = .ok (.iaload, 1) := by decide +kernel
theorem d_LA_law_742 : decode code 742 = .ok (.aload_n 3, 1) := by decide +kernel
theorem d_LA_law_743 : decode code 743 = .ok (.invokestatic 107, 3) := by decide +kernel
theorem d_LA_law_746 : decode code 746 = .ok (.istore 5, 2) := by decide +kernel
theorem d_LA_law_748 : decode code 748 = .ok (.aload_n 2, 1) := by decide +kernel
theorem d_LA_law_749 : decode code 749 = .ok (.aload_n 0, 1) := by decide +kernel
theorem d_LA_law_750 : decode code 750 = .ok (.iload 4, 2) := by decide +kernel
theorem d_LA_law_752 : decode code 752 = .ok (.iconst 1, 1) := by decide +kernel
theorem d_LA_law_753 : decode code 753 = .ok (.iadd, 1) := by decide +kernel
theorem d_LA_law_754 : decode code 754 = .ok (.iaload, 1) := by decide +kernel
theorem d_LA_law_755 : decode code 755 = .ok (.invokevirtual 109, 3) := by decide +kernel
theorem d_LA_law_758 : decode code 758 = .ok (.lstore 6, 2) := by decide +kernel
theorem d_LA_law_760 : decode code 760 = .ok (.aload_n 2, 1) := by decide +kernel
theorem d_LA_law_761 : decode code 761 = .ok (.invokevirtual 70, 3) := by decide +kernel
theorem d_LA_law_764 : decode code 764 = .ok (.iload 5, 2) := by decide +kernel
theorem d_LA_law_766 : decode code 766 = .ok (.if_icmp .eq 5, 3) := by decide +kernel
theorem d_LA_law_769 : decode code 769 = .ok (.iconst 0, 1) := by decide +kernel
theorem d_LA_law_770 : decode code 770 = .ok (.ireturn, 1) := by decide +kernel
theorem d_LA_law_771 : decode code 771 = .ok (.iload 5, 2) := by decide +kernel
theorem d_LA_law_773 : decode code 773 = .ok (.ifCond .ne 14, 3) := by decide +kernel
theorem d_LA_law_776 : decode code 776 = .ok (.aload_n 3, 1) := by decide +kernel
theorem d_LA_law_777 : decode code 777 = .ok (.iconst 0, 1) := by decide +kernel
theorem d_LA_law_778 : decode code 778 = .ok (.laload, 1) := by decide +kernel
theorem d_LA_law_779 : decode code 779 = .ok (.lload 6, 2) := by decide +kernel
theorem d_LA_law_781 : decode code 781 = .ok (.lcmp, 1) := by decide +kernel
theorem d_LA_law_782 : decode code 782 = .ok (.ifCond .eq 5, 3) := by decide +kernel
theorem d_LA_law_785 : decode code 785 = .ok (.iconst 0, 1) := by decide +kernel
theorem d_LA_law_786 : decode code 786 = .ok (.ireturn, 1) := by decide +kernel
theorem d_LA_law_787 : decode code 787 = .ok (.goto 28, 3) := by decide +kernel
theorem d_LA_law_790 : decode code 790 = .ok (.aload_n 1, 1) := by decide +kernel
theorem d_LA_law_791 : decode code 791 = .ok (.aload_n 0, 1) := by decide +kernel
theorem d_LA_law_792 : decode code 792 = .ok (.iload 4, 2) := by decide +kernel
theorem d_LA_law_794 : decode code 794 = .ok (.iconst 1, 1) := by decide +kernel
theorem d_LA_law_795 : decode code 795 = .ok (.iadd, 1) := by decide +kernel
theorem d_LA_law_796 : decode code 796 = .ok (.iaload, 1) := by decide +kernel
theorem d_LA_law_797 : decode code 797 = .ok (.invokevirtual 110, 3) := by decide +kernel
theorem d_LA_law_800 : decode code 800 = .ok (.aload_n 2, 1) := by decide +kernel
theorem d_LA_law_801 : decode code 801 = .ok (.aload_n 0, 1) := by decide +kernel
theorem d_LA_law_802 : decode code 802 = .ok (.iload 4, 2) := by decide +kernel
theorem d_LA_law_804 : decode code 804 = .ok (.iconst 1, 1) := by decide +kernel
theorem d_LA_law_805 : decode code 805 = .ok (.iadd, 1) := by decide +kernel
theorem d_LA_law_806 : decode code 806 = .ok (.iaload, 1) := by decide +kernel
theorem d_LA_law_807 : decode code 807 = .ok (.invokevirtual 113, 3) := by decide +kernel
theorem d_LA_law_810 : decode code 810 = .ok (.if_icmp .eq 5, 3) := by decide +kernel
theorem d_LA_law_813 : decode code 813 = .ok (.iconst 0, 1) := by decide +kernel
theorem d_LA_law_814 : decode code 814 = .ok (.ireturn, 1) := by decide +kernel
theorem d_LA_law_815 : decode code 815 = .ok (.iinc 4 5, 3) := by decide +kernel
theorem d_LA_law_818 : decode code 818 = .ok (.goto (-785), 3) := by decide +kernel
theorem d_LA_law_821 : decode code 821 = .ok (.iconst 1, 1) := by decide +kernel
theorem d_LA_law_822 : decode code 822 = .ok (.ireturn, 1) := by decide +kernel
end
section
/-! numbers: an Int32 by its integer -/
def iI (z : Int) : Int32 := Int32.ofInt z
theorem iI_of (x : Int32) : ∃ z : Int, (-2147483648 ≤ z ∧ z < 2147483648) ∧ x = iI z := ⟨x.toInt, ⟨Int32.le_toInt x, Int32.toInt_lt x⟩, (Int32.ofInt_toInt x).symm⟩
theorem iI_toInt {z : Int} (h : -2147483648 ≤ z ∧ z < 2147483648) : (iI z).toInt = z := Int32.toInt_ofInt_of_le h.1 h.2
theorem iI_add (a b : Int) : iI a + iI b = iI (a + b) := (Int32.ofInt_add a b).symm
theorem iI_sub (a b : Int) : iI a - iI b = iI (a - b) := (Int32.ofInt_sub a b).symm
theorem iI_mul (a b : Int) : iI a * iI b = iI (a * b) := (Int32.ofInt_mul a b).symm
theorem iI_neg (a : Int) : - iI a = iI (- a) := (Int32.ofInt_neg a).symm
theorem iI_lt {a b : Int} (ha : -2147483648 ≤ a ∧ a < 2147483648) (hb : -2147483648 ≤ b ∧ b < 2147483648) : iI a < iI b ↔ a < b := by
  rw [Int32.lt_iff_toInt_lt, iI_toInt ha, iI_toInt hb]
theorem iI_le {a b : Int} (ha : -2147483648 ≤ a ∧ a < 2147483648) (hb : -2147483648 ≤ b ∧ b < 2147483648) : iI a ≤ iI b ↔ a ≤ b := by
  rw [Int32.le_iff_toInt_le, iI_toInt ha, iI_toInt hb]
theorem iI_eq {a b : Int} (ha : -2147483648 ≤ a ∧ a < 2147483648) (hb : -2147483648 ≤ b ∧ b < 2147483648) : iI a = iI b ↔ a = b := by
  constructor
  · intro h
    have h2 := congrArg Int32.toInt h
    rwa [iI_toInt ha, iI_toInt hb] at h2
  · intro h; rw [h]
theorem iI_0 : iI 0 = 0 := rfl
theorem iI_nI (n : Nat) : iI (n : Int) = nI n := by
  show Int32.ofInt (n : Int) = Int32.ofNat n
  exact Int32.ofInt_eq_ofNat
theorem iI_clamp {z : Int} (h : 0 ≤ z ∧ z < 2147483648) : (iI z).toNatClampNeg = z.toNat := by
  show (iI z).toInt.toNat = z.toNat
  rw [iI_toInt (by omega)]
theorem iI_in {z : Int} {n : Nat} (h : 0 ≤ z ∧ z < n) (hn : n < 2147483648) : vp_in (iI z) n := by
  rw [vp_in_iff, iI_toInt (by omega)]
  omega
theorem iI_nneg {z : Int} (h : 0 ≤ z ∧ z < 2147483648) : ¬ iI z < 0 := by
  rw [← iI_0, iI_lt (by omega) (by omega)]; omega
theorem iI_divT {a b : Int} (ha : 0 ≤ a ∧ a < 2147483648) (hb : 0 < b ∧ b < 2147483648) : iI a / iI b = iI (a / b) := by
  obtain ⟨n, rfl⟩ := Int.eq_ofNat_of_zero_le ha.1
  obtain ⟨d, rfl⟩ := Int.eq_ofNat_of_zero_le (show 0 ≤ b by omega)
  rw [iI_nI, iI_nI, pk_div (by omega) (by omega) (by omega), ← iI_nI]
  rfl
theorem iI_remT {a b : Int} (ha : 0 ≤ a ∧ a < 2147483648) (hb : 0 < b ∧ b < 2147483648) : iI a - iI a / iI b * iI b = iI (a % b) := by
  obtain ⟨n, rfl⟩ := Int.eq_ofNat_of_zero_le ha.1
  obtain ⟨d, rfl⟩ := Int.eq_ofNat_of_zero_le (show 0 ≤ b by omega)
  rw [iI_nI, iI_nI, pk_rem (by omega) (by omega) (by omega), ← iI_nI]
  rfl
/-! functions that are changed at a place -/
def fu {α : Type} (f : Int → α) (z : Int) (v : α) : Int → α := fun j => if j = z then v else f j
theorem fu_self {α : Type} (f : Int → α) (z : Int) (v : α) : fu f z v z = v := by simp [fu]
theorem fu_ne {α : Type} (f : Int → α) {z j : Int} (v : α) (h : j ≠ z) : fu f z v j = f j := by simp [fu, h]
theorem fu_upd {g : Int → Int32} {z : Int} {x : Int32} (h : 0 ≤ z) : upd (fun j : Nat => g (j : Int)) z.toNat x = fun j : Nat => fu g z x (j : Int) := by
  funext j
  by_cases hj : j = z.toNat
  · subst hj
    simp [upd, fu, Int.toNat_of_nonneg h]
  · have : (j : Int) ≠ z := by omega
    simp [upd, fu, hj, this]
section CX1
variable {p : Program} {l : Launch} {e : Env} {R : Room} {s : State} {m : MethodId} {args : Array Value} {below : List Frame} {meth : Method} {c : Code} {H : Heap} {locs : List Loc} {cells slots : Nat} {Q : State → Prop}
variable {cc : ByteArray} {pc : Nat} {ls : Array Slot} {rest : List Value}
/-! rows whose numbers are integers -/
theorem cx_eq {x y : Int32} (h : x = y) (k : W p l e R s m args below meth c H locs cells slots Q (F0 m pc ls (.int y :: rest))) : W p l e R s m args below meth c H locs cells slots Q (F0 m pc ls (.int x :: rest)) := h ▸ k
theorem cx_eqL {x y : Int64} (h : x = y) (k : W p l e R s m args below meth c H locs cells slots Q (F0 m pc ls (.long y :: rest))) : W p l e R s m args below meth c H locs cells slots Q (F0 m pc ls (.long x :: rest)) := h ▸ k
theorem cx_iconst (hexec : p.tables.exec = Jvm.exec) (hb : c.code = cc) {n : Int} (hdg : decode cc pc = .ok (.iconst n, 1))
    (k : W p l e R s m args below meth c H locs cells slots Q (F0 m (pc + 1) ls (.int (iI n) :: rest))) : W p l e R s m args below meth c H locs cells slots Q (F0 m pc ls rest) := lv_iconst hexec hb hdg rfl k
theorem cx_bipush (hexec : p.tables.exec = Jvm.exec) (hb : c.code = cc) {n : Int} (hdg : decode cc pc = .ok (.bipush n, 2)) (h : (Int8.ofInt n).toInt32 = iI n)
    (k : W p l e R s m args below meth c H locs cells slots Q (F0 m (pc + 2) ls (.int (iI n) :: rest))) : W p l e R s m args below meth c H locs cells slots Q (F0 m pc ls rest) := lv_bipush hexec hb hdg h k
theorem cx_sipush (hexec : p.tables.exec = Jvm.exec) (hb : c.code = cc) {n : Int} (hdg : decode cc pc = .ok (.sipush n, 3)) (h : (Int16.ofInt n).toInt32 = iI n)
    (k : W p l e R s m args below meth c H locs cells slots Q (F0 m (pc + 3) ls (.int (iI n) :: rest))) : W p l e R s m args below meth c H locs cells slots Q (F0 m pc ls rest) := lv_sipush hexec hb hdg h k
theorem cx_iadd (hexec : p.tables.exec = Jvm.exec) (hb : c.code = cc) {x y : Int} (hdg : decode cc pc = .ok (.iadd, 1))
    (k : W p l e R s m args below meth c H locs cells slots Q (F0 m (pc + 1) ls (.int (iI (x + y)) :: rest))) : W p l e R s m args below meth c H locs cells slots Q (F0 m pc ls (.int (iI y) :: .int (iI x) :: rest)) := lv_iadd hexec hb hdg (cx_eq (iI_add x y) k)
theorem cx_isub (hexec : p.tables.exec = Jvm.exec) (hb : c.code = cc) {x y : Int} (hdg : decode cc pc = .ok (.isub, 1))
    (k : W p l e R s m args below meth c H locs cells slots Q (F0 m (pc + 1) ls (.int (iI (x - y)) :: rest))) : W p l e R s m args below meth c H locs cells slots Q (F0 m pc ls (.int (iI y) :: .int (iI x) :: rest)) := lv_isub hexec hb hdg (cx_eq (iI_sub x y) k)
theorem cx_imul (hexec : p.tables.exec = Jvm.exec) (hb : c.code = cc) {x y : Int} (hdg : decode cc pc = .ok (.imul, 1))
    (k : W p l e R s m args below meth c H locs cells slots Q (F0 m (pc + 1) ls (.int (iI (x * y)) :: rest))) : W p l e R s m args below meth c H locs cells slots Q (F0 m pc ls (.int (iI y) :: .int (iI x) :: rest)) := lv_imul hexec hb hdg (cx_eq (iI_mul x y) k)
theorem cx_idiv (hexec : p.tables.exec = Jvm.exec) (hb : c.code = cc) {x y : Int} (hdg : decode cc pc = .ok (.idiv, 1)) (hx : 0 ≤ x ∧ x < 2147483648) (hy : 0 < y ∧ y < 2147483648)
    (k : W p l e R s m args below meth c H locs cells slots Q (F0 m (pc + 1) ls (.int (iI (x / y)) :: rest))) : W p l e R s m args below meth c H locs cells slots Q (F0 m pc ls (.int (iI y) :: .int (iI x) :: rest)) := lv_idiv hexec hb hdg (by rw [← iI_0, iI_eq (by omega) (by omega)]; omega) (cx_eq (iI_divT hx hy) k)
theorem cx_irem (hexec : p.tables.exec = Jvm.exec) (hb : c.code = cc) {x y : Int} (hdg : decode cc pc = .ok (.irem, 1)) (hx : 0 ≤ x ∧ x < 2147483648) (hy : 0 < y ∧ y < 2147483648)
    (k : W p l e R s m args below meth c H locs cells slots Q (F0 m (pc + 1) ls (.int (iI (x % y)) :: rest))) : W p l e R s m args below meth c H locs cells slots Q (F0 m pc ls (.int (iI y) :: .int (iI x) :: rest)) := lv_irem hexec hb hdg (by rw [← iI_0, iI_eq (by omega) (by omega)]; omega) (cx_eq (iI_remT hx hy) k)
theorem cx_iinc (hexec : p.tables.exec = Jvm.exec) (hb : c.code = cc) {i nL k : Nat} {n : Int} {x : Int} {lv lv' : List (Nat × Value)} (hdg : decode cc pc = .ok (.iinc i n, 3)) (h : lv_has ls nL lv) (hk : lv[k]? = some (i, .int (iI x))) (hn : i < nL) (hl : (i, Value.int (iI (x + n))) :: lv.filter (fun q => !(q.1 == i) && !(q.1 + 1 == i && q.2.category == 2)) = lv')
    (kk : ∀ ls' : Array Slot, lv_has ls' nL lv' → W p l e R s m args below meth c H locs cells slots Q (F0 m (pc + 3) ls' rest)) : W p l e R s m args below meth c H locs cells slots Q (F0 m pc ls rest) := lv_iinc hexec hb hdg h hk (iI_add x n) hn hl kk
theorem cx_if_eq (hexec : p.tables.exec = Jvm.exec) (hb : c.code = cc) {x : Int} {off : Int} {tgt : Nat} (hdg : decode cc pc = .ok (.ifCond .eq off, 3)) (ht : (pc : Int) + off = (tgt : Int)) (hx : -2147483648 ≤ x ∧ x < 2147483648)
    (kt : x = 0 → W p l e R s m args below meth c H locs cells slots Q (F0 m tgt ls rest)) (kf : ¬ x = 0 → W p l e R s m args below meth c H locs cells slots Q (F0 m (pc + 3) ls rest)) : W p l e R s m args below meth c H locs cells slots Q (F0 m pc ls (.int (iI x) :: rest)) :=
  lv_if_eq hexec hb hdg ht (fun h => kt ((iI_eq hx (by omega)).mp h)) (fun h => kf (fun q => h ((iI_eq hx (by omega)).mpr q)))
theorem cx_if_ne (hexec : p.tables.exec = Jvm.exec) (hb : c.code = cc) {x : Int} {off : Int} {tgt : Nat} (hdg : decode cc pc = .ok (.ifCond .ne off, 3)) (ht : (pc : Int) + off = (tgt : Int)) (hx : -2147483648 ≤ x ∧ x < 2147483648)
    (kt : ¬ x = 0 → W p l e R s m args below meth c H locs cells slots Q (F0 m tgt ls rest)) (kf : x = 0 → W p l e R s m args below meth c H locs cells slots Q (F0 m (pc + 3) ls rest)) : W p l e R s m args below meth c H locs cells slots Q (F0 m pc ls (.int (iI x) :: rest)) :=
  lv_if_ne hexec hb hdg ht (fun h => kt (fun q => h ((iI_eq hx (by omega)).mpr q))) (fun h => kf ((iI_eq hx (by omega)).mp h))
theorem cx_if_lt (hexec : p.tables.exec = Jvm.exec) (hb : c.code = cc) {x : Int} {off : Int} {tgt : Nat} (hdg : decode cc pc = .ok (.ifCond .lt off, 3)) (ht : (pc : Int) + off = (tgt : Int)) (hx : -2147483648 ≤ x ∧ x < 2147483648)
    (kt : x < 0 → W p l e R s m args below meth c H locs cells slots Q (F0 m tgt ls rest)) (kf : 0 ≤ x → W p l e R s m args below meth c H locs cells slots Q (F0 m (pc + 3) ls rest)) : W p l e R s m args below meth c H locs cells slots Q (F0 m pc ls (.int (iI x) :: rest)) :=
  lv_if_lt hexec hb hdg ht (fun h => kt ((iI_lt hx (by omega)).mp h)) (fun h => kf (Int.not_lt.mp (fun q => h ((iI_lt hx (by omega)).mpr q))))
theorem cx_if_ge (hexec : p.tables.exec = Jvm.exec) (hb : c.code = cc) {x : Int} {off : Int} {tgt : Nat} (hdg : decode cc pc = .ok (.ifCond .ge off, 3)) (ht : (pc : Int) + off = (tgt : Int)) (hx : -2147483648 ≤ x ∧ x < 2147483648)
    (kt : 0 ≤ x → W p l e R s m args below meth c H locs cells slots Q (F0 m tgt ls rest)) (kf : x < 0 → W p l e R s m args below meth c H locs cells slots Q (F0 m (pc + 3) ls rest)) : W p l e R s m args below meth c H locs cells slots Q (F0 m pc ls (.int (iI x) :: rest)) :=
  lv_if_ge hexec hb hdg ht (fun h => kt ((by first | exact (iI_le (by omega) hx).mp h | exact Int.not_lt.mp (fun q => h ((iI_lt hx (by omega)).mpr q))))) (fun h => kf ((by first | exact (iI_lt hx (by omega)).mp h | exact Int.not_le.mp (fun q => h ((iI_le (by omega) hx).mpr q)) | exact Decidable.byContradiction (fun n => h (fun q => n ((iI_lt hx (by omega)).mp q))))))
theorem cx_if_gt (hexec : p.tables.exec = Jvm.exec) (hb : c.code = cc) {x : Int} {off : Int} {tgt : Nat} (hdg : decode cc pc = .ok (.ifCond .gt off, 3)) (ht : (pc : Int) + off = (tgt : Int)) (hx : -2147483648 ≤ x ∧ x < 2147483648)
    (kt : 0 < x → W p l e R s m args below meth c H locs cells slots Q (F0 m tgt ls rest)) (kf : x ≤ 0 → W p l e R s m args below meth c H locs cells slots Q (F0 m (pc + 3) ls rest)) : W p l e R s m args below meth c H locs cells slots Q (F0 m pc ls (.int (iI x) :: rest)) :=
  lv_if_gt hexec hb hdg ht (fun h => kt ((by first | exact (iI_lt (by omega) hx).mp h | exact Int.not_le.mp (fun q => h ((iI_le hx (by omega)).mpr q))))) (fun h => kf ((by first | exact (iI_le hx (by omega)).mp h | exact Int.not_lt.mp (fun q => h ((iI_lt (by omega) hx).mpr q)) | exact Decidable.byContradiction (fun n => h (fun q => n ((iI_le hx (by omega)).mp q))))))
theorem cx_if_le (hexec : p.tables.exec = Jvm.exec) (hb : c.code = cc) {x : Int} {off : Int} {tgt : Nat} (hdg : decode cc pc = .ok (.ifCond .le off, 3)) (ht : (pc : Int) + off = (tgt : Int)) (hx : -2147483648 ≤ x ∧ x < 2147483648)
    (kt : x ≤ 0 → W p l e R s m args below meth c H locs cells slots Q (F0 m tgt ls rest)) (kf : 0 < x → W p l e R s m args below meth c H locs cells slots Q (F0 m (pc + 3) ls rest)) : W p l e R s m args below meth c H locs cells slots Q (F0 m pc ls (.int (iI x) :: rest)) :=
  lv_if_le hexec hb hdg ht (fun h => kt ((by first | exact (iI_le hx (by omega)).mp h | exact Int.not_lt.mp (fun q => h ((iI_lt (by omega) hx).mpr q))))) (fun h => kf ((by first | exact (iI_lt (by omega) hx).mp h | exact Int.not_le.mp (fun q => h ((iI_le hx (by omega)).mpr q)) | exact Decidable.byContradiction (fun n => h (fun q => n ((iI_lt (by omega) hx).mp q))))))
theorem cx_icmp_eq (hexec : p.tables.exec = Jvm.exec) (hb : c.code = cc) {x y : Int} {off : Int} {tgt : Nat} (hdg : decode cc pc = .ok (.if_icmp .eq off, 3)) (ht : (pc : Int) + off = (tgt : Int)) (hx : -2147483648 ≤ x ∧ x < 2147483648) (hy : -2147483648 ≤ y ∧ y < 2147483648)
    (kt : x = y → W p l e R s m args below meth c H locs cells slots Q (F0 m tgt ls rest)) (kf : ¬ x = y → W p l e R s m args below meth c H locs cells slots Q (F0 m (pc + 3) ls rest)) : W p l e R s m args below meth c H locs cells slots Q (F0 m pc ls (.int (iI y) :: .int (iI x) :: rest)) :=
  lv_icmp_eq hexec hb hdg ht (fun h => kt ((iI_eq hx hy).mp h)) (fun h => kf (fun q => h ((iI_eq hx hy).mpr q)))
theorem cx_icmp_ne (hexec : p.tables.exec = Jvm.exec) (hb : c.code = cc) {x y : Int} {off : Int} {tgt : Nat} (hdg : decode cc pc = .ok (.if_icmp .ne off, 3)) (ht : (pc : Int) + off = (tgt : Int)) (hx : -2147483648 ≤ x ∧ x < 2147483648) (hy : -2147483648 ≤ y ∧ y < 2147483648)
    (kt : ¬ x = y → W p l e R s m args below meth c H locs cells slots Q (F0 m tgt ls rest)) (kf : x = y → W p l e R s m args below meth c H locs cells slots Q (F0 m (pc + 3) ls rest)) : W p l e R s m args below meth c H locs cells slots Q (F0 m pc ls (.int (iI y) :: .int (iI x) :: rest)) :=
  lv_icmp_ne hexec hb hdg ht (fun h => kt (fun q => h ((iI_eq hx hy).mpr q))) (fun h => kf ((iI_eq hx hy).mp h))
theorem cx_icmp_lt (hexec : p.tables.exec = Jvm.exec) (hb : c.code = cc) {x y : Int} {off : Int} {tgt : Nat} (hdg : decode cc pc = .ok (.if_icmp .lt off, 3)) (ht : (pc : Int) + off = (tgt : Int)) (hx : -2147483648 ≤ x ∧ x < 2147483648) (hy : -2147483648 ≤ y ∧ y < 2147483648)
    (kt : x < y → W p l e R s m args below meth c H locs cells slots Q (F0 m tgt ls rest)) (kf : y ≤ x → W p l e R s m args below meth c H locs cells slots Q (F0 m (pc + 3) ls rest)) : W p l e R s m args below meth c H locs cells slots Q (F0 m pc ls (.int (iI y) :: .int (iI x) :: rest)) :=
  lv_icmp_lt hexec hb hdg ht (fun h => kt ((iI_lt hx hy).mp h)) (fun h => kf (Int.not_lt.mp (fun q => h ((iI_lt hx hy).mpr q))))
theorem cx_icmp_ge (hexec : p.tables.exec = Jvm.exec) (hb : c.code = cc) {x y : Int} {off : Int} {tgt : Nat} (hdg : decode cc pc = .ok (.if_icmp .ge off, 3)) (ht : (pc : Int) + off = (tgt : Int)) (hx : -2147483648 ≤ x ∧ x < 2147483648) (hy : -2147483648 ≤ y ∧ y < 2147483648)
    (kt : y ≤ x → W p l e R s m args below meth c H locs cells slots Q (F0 m tgt ls rest)) (kf : x < y → W p l e R s m args below meth c H locs cells slots Q (F0 m (pc + 3) ls rest)) : W p l e R s m args below meth c H locs cells slots Q (F0 m pc ls (.int (iI y) :: .int (iI x) :: rest)) :=
  lv_icmp_ge hexec hb hdg ht (fun h => kt ((by first | exact (iI_le hy hx).mp h | exact Int.not_lt.mp (fun q => h ((iI_lt hx hy).mpr q))))) (fun h => kf ((by first | exact (iI_lt hx hy).mp h | exact Int.not_le.mp (fun q => h ((iI_le hy hx).mpr q)) | exact Decidable.byContradiction (fun n => h (fun q => n ((iI_lt hx hy).mp q))))))
theorem cx_icmp_gt (hexec : p.tables.exec = Jvm.exec) (hb : c.code = cc) {x y : Int} {off : Int} {tgt : Nat} (hdg : decode cc pc = .ok (.if_icmp .gt off, 3)) (ht : (pc : Int) + off = (tgt : Int)) (hx : -2147483648 ≤ x ∧ x < 2147483648) (hy : -2147483648 ≤ y ∧ y < 2147483648)
    (kt : y < x → W p l e R s m args below meth c H locs cells slots Q (F0 m tgt ls rest)) (kf : x ≤ y → W p l e R s m args below meth c H locs cells slots Q (F0 m (pc + 3) ls rest)) : W p l e R s m args below meth c H locs cells slots Q (F0 m pc ls (.int (iI y) :: .int (iI x) :: rest)) :=
  lv_icmp_gt hexec hb hdg ht (fun h => kt ((by first | exact (iI_lt hy hx).mp h | exact Int.not_le.mp (fun q => h ((iI_le hx hy).mpr q))))) (fun h => kf ((by first | exact (iI_le hx hy).mp h | exact Int.not_lt.mp (fun q => h ((iI_lt hy hx).mpr q)) | exact Decidable.byContradiction (fun n => h (fun q => n ((iI_le hx hy).mp q))))))
theorem cx_icmp_le (hexec : p.tables.exec = Jvm.exec) (hb : c.code = cc) {x y : Int} {off : Int} {tgt : Nat} (hdg : decode cc pc = .ok (.if_icmp .le off, 3)) (ht : (pc : Int) + off = (tgt : Int)) (hx : -2147483648 ≤ x ∧ x < 2147483648) (hy : -2147483648 ≤ y ∧ y < 2147483648)
    (kt : x ≤ y → W p l e R s m args below meth c H locs cells slots Q (F0 m tgt ls rest)) (kf : y < x → W p l e R s m args below meth c H locs cells slots Q (F0 m (pc + 3) ls rest)) : W p l e R s m args below meth c H locs cells slots Q (F0 m pc ls (.int (iI y) :: .int (iI x) :: rest)) :=
  lv_icmp_le hexec hb hdg ht (fun h => kt ((by first | exact (iI_le hx hy).mp h | exact Int.not_lt.mp (fun q => h ((iI_lt hy hx).mpr q))))) (fun h => kf ((by first | exact (iI_lt hy hx).mp h | exact Int.not_le.mp (fun q => h ((iI_le hx hy).mpr q)) | exact Decidable.byContradiction (fun n => h (fun q => n ((iI_lt hy hx).mp q))))))
end CX1
end
section
/-! contracts over worlds: one start, one end, one row a call -/
def cx_isN : Cond → Bool
  | .fieldLinkNest .. => true
  | .methodLinkNest .. => true
  | _ => false
def cx_N (nw : List Cond) (U : State) : Prop := ∀ w ∈ nw, va_Nw w U
theorem cx_isN_on {w : Cond} (h : cx_isN w = true) : w.onTables = true := by
  unfold cx_isN at h
  split at h
  · rfl
  · rfl
  · cases h
theorem cx_N_one {w : Cond} (h : cx_isN w = true) {s U : State} (hW : s.WarmedH U.vm) (hZ : va_Nw w s) : va_Nw w U := by
  unfold cx_isN at h
  split at h
  · exact va_Nw.warmF hW hZ
  · exact va_Nw.warmM hW hZ
  · cases h
theorem cx_N.moved {nw : List Cond} (hnw : nw.all cx_isN = true) {s U : State} (hW : s.WarmedH U.vm) (h : cx_N nw s) : cx_N nw U := fun w hw => cx_N_one (List.all_eq_true.mp hnw w hw) hW (h w hw)
def cx_B (D : va_G) (cl : List vw_C) (tys : List (ClassId × FieldType)) (nw : List Cond) (sz : Nat) (wc : va_W) (U : State) : Prop := U.heap.size = sz ∧ va_P D cl wc U.heap ∧ va_K D cl tys U ∧ va_D (fun _ => True) wc ∧ cx_N nw U
theorem cx_blind {D : va_G} {cl : List vw_C} {tys : List (ClassId × FieldType)} {nw : List Cond} {sz : Nat} {wc : va_W} {av : List Value} (hnw : nw.all cx_isN = true) : FrameBlind (va_Pc av (cx_B D cl tys nw sz wc)) := fun a U g mk q => by
  obtain ⟨q0, q1, qP, qK, qD, qN⟩ := q
  exact ⟨q0, q1, qP, va_K.moved (u := U) (U := U.calling g mk a) (Vm.Alike.refl U.vm) qK, qD, fun w hw => va_Nw.same (cx_isN_on (List.all_eq_true.mp hnw w hw)) (u := U) (U := U.calling g mk a) rfl (qN w hw)⟩
theorem cx_sub {D : va_G} {cl : List vw_C} {ws ws' : va_W} {H : Heap} (h : va_P D cl ws H) (is : List Nat) (hs : is.map (fun i => ws[i]?) = ws'.map some) : va_P D cl ws' H := by
  intro k q hk
  have h1 : (is.map (fun i => ws[i]?))[k]? = some (some q) := by rw [hs, List.getElem?_map, hk]; rfl
  rw [List.getElem?_map] at h1
  cases hi : is[k]? with
  | none => rw [hi] at h1; cases h1
  | some i => rw [hi] at h1; exact h i q (Option.some.inj h1)
/-- ends: an int, nothing, a long -/
def cxI {S : Type} (D : va_G) (cl : List vw_C) (post : Int32 → S → Prop) (wn : S → va_W) (A : Nat → Prop) : Array Value → State → Outcome → State → Prop := va_Qi post (fun u t => va_P D cl (wn u) t.heap ∧ va_D A (wn u)) A
def cxV {S : Type} (D : va_G) (cl : List vw_C) (post : S → Prop) (wn : S → va_W) (A : Nat → Prop) : Array Value → State → Outcome → State → Prop := va_Qv post (fun u t => va_P D cl (wn u) t.heap ∧ va_D A (wn u)) A
def cxL {S : Type} (D : va_G) (cl : List vw_C) (post : Int64 → S → Prop) (wn : S → va_W) (A : Nat → Prop) : Array Value → State → Outcome → State → Prop := va_Ql post (fun u t => va_P D cl (wn u) t.heap ∧ va_D A (wn u)) A
/-- a contract's body, from its entry -/
theorem cx_in {l : Launch} {y : MethodName} {ws ws' : List Cond} {rm : Room} {D : va_G} {cl : List vw_C} {tys : List (ClassId × FieldType)} {nw : List Cond} {sz : Nat} {wc : va_W} {av : List Value} {Qf : (Nat → Prop) → Array Value → State → Outcome → State → Prop} {mc ms : Nat} {cc : ByteArray} {maxL : Nat} {ret : Option FieldType}
    (hy : plainName y.cls = true) (hw : ws = Cond.code y cc maxL ret :: ws') (hn : (lg_sl av).length ≤ maxL)
    (body : ∀ (p : Program) (e : Env) (s : State) (m : MethodId) (below : List Frame) (meth : Method) (c : Code) (ls : Array Slot) (A : Nat → Prop), p.tables.exec = Jvm.exec → c.code = cc → meth.sig.returnType = ret → c.maxLocals = maxL → (∀ w ∈ ws', w.before av.toArray s = true) → s.vm.findClass y.cls = some m.cls → meth.locks = false → meth.name = y.name →
      va_P D cl wc s.heap → va_K D cl tys s → va_D A wc → cx_N nw s → va_S A s.heap s.heap [] → (∀ q : Nat, s.heap.size ≤ q → A q) → lv_has ls maxL (lv_args 0 av) → W p l e rm s m av.toArray below meth c s.heap [] 0 0 (MQ below (Qf A) av.toArray s mc ms A) (F0 m 0 ls [])) :
    Met l y ws rm (va_Pc av (cx_B D cl tys nw sz wc)) (Qf (va_A wc sz)) mc ms (va_A wc sz) := by
  refine Met.ofW (cc := cc) (maxL := maxL) (ret := ret) hy hw ?_
  intro p e s m args below meth c s₁ B hml hv
  obtain ⟨rfl, rfl, hP, hK, hD0, hN⟩ := hv
  have hl := lv_entry av (n := maxL) hn
  rw [lg_entry_eq]
  generalize (lg_sl av ++ List.replicate (maxL - (lg_sl av).length) Slot.unset).toArray = ls at hl ⊢
  exact body p e s m below meth c ls (va_A wc s.heap.size) B.exec B.bytes B.returns hml (fun w h => atoms_spec (ws := ws) B.pre w (by rw [hw]; exact List.mem_cons_of_mem _ h)) (findClass_of_methodNamed B.named) B.notSynchronized (name_of_methodNamed B.named B.method).1 hP hK (hD0.self) hN va_S.rf (fun q h => Or.inr h) hl
section CX2
variable {p : Program} {l : Launch} {e : Env} {R : Room} {s : State} {m : MethodId} {args : Array Value} {below : List Frame} {meth : Method} {c : Code} {H : Heap} {locs : List Loc} {cells slots : Nat} {Q : State → Prop}
variable {cc : ByteArray} {pc : Nat} {ls : Array Slot} {rest st0 : List Value} {D : va_G} {cl : List vw_C} {A : Nat → Prop} {tys : List (ClassId × FieldType)} {nw : List Cond} {ws wc wr : va_W} {H0 : Heap}
theorem cx_iret {S : Type} {post : Int32 → S → Prop} {wn : S → va_W} (hx : p.tables.exec = Jvm.exec) (hb : c.code = cc) (hr : meth.sig.returnType = some .int) (hlocks : meth.locks = false) (u : S) {v : Int32} (hq : post v u) (hP : va_P D cl (wn u) H) (hD : va_D A (wn u)) (hS : va_S A s.heap H locs) (hdg : decode cc pc = .ok (.ireturn, 1)) :
    W p l e R s m args below meth c H locs cells slots (MQ below (cxI D cl post wn A) args s cells slots A) (F0 m pc ls [.int v]) :=
  W.iret hx hb hr (fun t ht _ => ⟨⟨v, u, rfl, hq, by rw [ht]; exact hP, hD⟩, hS.F ht⟩) hS.2.2 hdg hlocks
theorem cx_zret {S : Type} {post : Int32 → S → Prop} {wn : S → va_W} (hx : p.tables.exec = Jvm.exec) (hb : c.code = cc) (hr : meth.sig.returnType = some .boolean) (hlocks : meth.locks = false) (u : S) {v : Int32} (hv : v = 0 ∨ v = 1) (hq : post v u) (hP : va_P D cl (wn u) H) (hD : va_D A (wn u)) (hS : va_S A s.heap H locs) (hdg : decode cc pc = .ok (.ireturn, 1)) :
    W p l e R s m args below meth c H locs cells slots (MQ below (cxI D cl post wn A) args s cells slots A) (F0 m pc ls [.int v]) :=
  W.zret hx hb hr (by rcases hv with rfl | rfl <;> rfl) (fun t ht _ => ⟨⟨v, u, rfl, hq, by rw [ht]; exact hP, hD⟩, hS.F ht⟩) hS.2.2 hdg hlocks
theorem cx_vret {S : Type} {post : S → Prop} {wn : S → va_W} (hx : p.tables.exec = Jvm.exec) (hb : c.code = cc) (hr : meth.sig.returnType = none) (hlocks : meth.locks = false) (u : S) (hq : post u) (hP : va_P D cl (wn u) H) (hD : va_D A (wn u)) (hS : va_S A s.heap H locs) (hdg : decode cc pc = .ok (.return_, 1)) :
    W p l e R s m args below meth c H locs cells slots (MQ below (cxV D cl post wn A) args s cells slots A) (F0 m pc ls []) :=
  W.vret hx hb hr (fun t ht _ => ⟨⟨u, rfl, hq, by rw [ht]; exact hP, hD⟩, hS.F ht⟩) hS.2.2 hdg hlocks
theorem cx_lret {S : Type} {post : Int64 → S → Prop} {wn : S → va_W} (hx : p.tables.exec = Jvm.exec) (hb : c.code = cc) (hr : meth.sig.returnType = some .long) (hlocks : meth.locks = false) (u : S) {v : Int64} (hq : post v u) (hP : va_P D cl (wn u) H) (hD : va_D A (wn u)) (hS : va_S A s.heap H locs) (hdg : decode cc pc = .ok (.lreturn, 1)) :
    W p l e R s m args below meth c H locs cells slots (MQ below (cxL D cl post wn A) args s cells slots A) (F0 m pc ls [.long v]) :=
  W.lret hx hb hr (fun t ht _ => ⟨⟨v, u, rfl, hq, by rw [ht]; exact hP, hD⟩, hS.F ht⟩) hS.2.2 hdg hlocks
/-- what a callee finds at its start -/
theorem cx_pS {av : List Value} (hnw : nw.all cx_isN = true) (hK : va_K D cl tys s) (hN : cx_N nw s) (hP : va_P D cl ws H) (hD : va_D A ws) (isC : List Nat) (hnC : va_nd isC = true) (hC : isC.map (fun i => ws[i]?) = wc.map some) : PreS s H (va_Pc av (cx_B D cl tys nw H.size wc)) av :=
  ⟨cx_blind hnw, fun U hU hW => ⟨rfl, by rw [hU], by rw [hU]; exact cx_sub hP isC hC, va_K.moved hW.alike hK, (hD.sub isC hnC hC).weaken (fun _ _ _ _ => trivial), cx_N.moved hnw hW hN⟩⟩
theorem cx_pV {b q0 ci : Nat} {r : vw_C} {fs As : List Value} (hnw : nw.all cx_isN = true) (hK : va_K D cl tys s) (hN : cx_N nw s) (hP : va_P D cl ws H) (hD : va_D A ws) (isC : List Nat) (hnC : va_nd isC = true) (hC : isC.map (fun i => ws[i]?) = wc.map some) (hc : cl[ci]? = some r) (he : ws[q0]? = some (b, .inr (ci, fs))) : PreV s H r.1 b (va_Pc (.ref b :: As) (cx_B D cl tys nw H.size wc)) As :=
  ⟨cx_blind hnw, va_recv hK hP hc he, fun U hU hW => ⟨rfl, by rw [hU], by rw [hU]; exact cx_sub hP isC hC, va_K.moved hW.alike hK, (hD.sub isC hnC hC).weaken (fun _ _ _ _ => trivial), cx_N.moved hnw hW hN⟩⟩
/-- behind a call: the callee's cells as it left them, at their places -/
theorem cx_cI {S : Type} {post : Int32 → S → Prop} {wn ws2 : S → va_W} {a : Array Value} (hr : va_Run p l e R s m args below meth c H locs cells slots 0 0 (F0 m pc ls st0) rest (cxI D cl post wn (va_A wc H.size) a) (va_A wc H.size)) (hP : va_P D cl ws H) (hD : va_D A ws) (hS : va_S A H0 H locs) (hA : ∀ q, H0.size ≤ q → A q)
    (isC isR pm : List Nat) (hC : isC.map (fun i => ws[i]?) = wc.map some) (hR : isR.map (fun i => ws[i]?) = wr.map some) (hn : va_nd isR = true) (hdis : ∀ i ∈ isR, i ∉ isC) (hpm : ∀ u, pm.map (fun i => (wr ++ wn u)[i]?) = (ws2 u).map some) (hpn : va_nd pm = true)
    (kk : ∀ (r : Int32) (u : S) (H1 : Heap) (locs1 : List Loc), post r u → va_P D cl (ws2 u) H1 → va_D A (ws2 u) → va_S A H0 H1 locs1 → W p l e R s m args below meth c H1 locs1 cells slots Q (F0 m (pc + 3) ls (.int r :: rest))) : W p l e R s m args below meth c H locs cells slots Q (F0 m pc ls st0) := by
  have hFc := va_free (wc := wc) hD hS hA isC hC
  refine va_calli hr hS (fun q _ h => hFc q h) hFc (fun r u t H1 locs1 ht hvm hq hB hz hk hS1 => ?_)
  obtain ⟨hP1, hD1⟩ := hB
  rw [ht] at hP1
  obtain ⟨hP2, hD2⟩ := va_join (wr := wr) (w1 := wn u) hP hD isC isR hC hR hn hdis hk hFc hP1 hD1
  exact kk r u H1 locs1 hq (cx_sub hP2 pm (hpm u)) (hD2.sub pm hpn (hpm u)) hS1
theorem cx_cV {S : Type} {post : S → Prop} {wn ws2 : S → va_W} {a : Array Value} (hr : va_Run p l e R s m args below meth c H locs cells slots 0 0 (F0 m pc ls st0) rest (cxV D cl post wn (va_A wc H.size) a) (va_A wc H.size)) (hP : va_P D cl ws H) (hD : va_D A ws) (hS : va_S A H0 H locs) (hA : ∀ q, H0.size ≤ q → A q)
    (isC isR pm : List Nat) (hC : isC.map (fun i => ws[i]?) = wc.map some) (hR : isR.map (fun i => ws[i]?) = wr.map some) (hn : va_nd isR = true) (hdis : ∀ i ∈ isR, i ∉ isC) (hpm : ∀ u, pm.map (fun i => (wr ++ wn u)[i]?) = (ws2 u).map some) (hpn : va_nd pm = true)
    (kk : ∀ (u : S) (H1 : Heap) (locs1 : List Loc), post u → va_P D cl (ws2 u) H1 → va_D A (ws2 u) → va_S A H0 H1 locs1 → W p l e R s m args below meth c H1 locs1 cells slots Q (F0 m (pc + 3) ls rest)) : W p l e R s m args below meth c H locs cells slots Q (F0 m pc ls st0) := by
  have hFc := va_free (wc := wc) hD hS hA isC hC
  refine va_callv hr hS (fun q _ h => hFc q h) hFc (fun u t H1 locs1 ht hvm hq hB hz hk hS1 => ?_)
  obtain ⟨hP1, hD1⟩ := hB
  rw [ht] at hP1
  obtain ⟨hP2, hD2⟩ := va_join (wr := wr) (w1 := wn u) hP hD isC isR hC hR hn hdis hk hFc hP1 hD1
  exact kk u H1 locs1 hq (cx_sub hP2 pm (hpm u)) (hD2.sub pm hpn (hpm u)) hS1
theorem cx_cL {S : Type} {post : Int64 → S → Prop} {wn ws2 : S → va_W} {a : Array Value} (hr : va_Run p l e R s m args below meth c H locs cells slots 0 0 (F0 m pc ls st0) rest (cxL D cl post wn (va_A wc H.size) a) (va_A wc H.size)) (hP : va_P D cl ws H) (hD : va_D A ws) (hS : va_S A H0 H locs) (hA : ∀ q, H0.size ≤ q → A q)
    (isC isR pm : List Nat) (hC : isC.map (fun i => ws[i]?) = wc.map some) (hR : isR.map (fun i => ws[i]?) = wr.map some) (hn : va_nd isR = true) (hdis : ∀ i ∈ isR, i ∉ isC) (hpm : ∀ u, pm.map (fun i => (wr ++ wn u)[i]?) = (ws2 u).map some) (hpn : va_nd pm = true)
    (kk : ∀ (r : Int64) (u : S) (H1 : Heap) (locs1 : List Loc), post r u → va_P D cl (ws2 u) H1 → va_D A (ws2 u) → va_S A H0 H1 locs1 → W p l e R s m args below meth c H1 locs1 cells slots Q (F0 m (pc + 3) ls (.long r :: rest))) : W p l e R s m args below meth c H locs cells slots Q (F0 m pc ls st0) := by
  have hFc := va_free (wc := wc) hD hS hA isC hC
  refine va_calll hr hS (fun q _ h => hFc q h) hFc (fun r u t H1 locs1 ht hvm hq hB hz hk hS1 => ?_)
  obtain ⟨hP1, hD1⟩ := hB
  rw [ht] at hP1
  obtain ⟨hP2, hD2⟩ := va_join (wr := wr) (w1 := wn u) hP hD isC isR hC hR hn hdis hk hFc hP1 hD1
  exact kk r u H1 locs1 hq (cx_sub hP2 pm (hpm u)) (hD2.sub pm hpn (hpm u)) hS1
/-- an int array, read and written -/
theorem cx_iald {a : Nat} (hx : p.tables.exec = Jvm.exec) (hb : c.code = cc) (hK : va_K D cl tys s) (hP : va_P D cl ws H) (q0 t0 : Nat) {cA : ClassId} {n : Nat} {g : Int → Int32} (ha : ws[q0]? = some (a, .inl (cA, n, .inl (fun j : Nat => g (j : Int))))) (ht : tys[t0]? = some (cA, .int)) {z : Int} (hz : 0 ≤ z ∧ z < n) (hn : n < 2147483648) (hdg : decode cc pc = .ok (.iaload, 1))
    (kk : W p l e R s m args below meth c H locs cells slots Q (F0 m (pc + 1) ls (.int (g z) :: rest))) : W p l e R s m args below meth c H locs cells slots Q (F0 m pc ls (.int (iI z) :: .ref a :: rest)) := by
  refine va_iald hx hb hK hP q0 t0 ha ht (iI_in hz hn) hdg ?_
  rw [iI_clamp (by omega)]
  show W p l e R s m args below meth c H locs cells slots Q (F0 m (pc + 1) ls (.int (g (z.toNat : Int)) :: rest))
  rw [Int.toNat_of_nonneg hz.1]
  exact kk
theorem cx_bald {a : Nat} (hx : p.tables.exec = Jvm.exec) (hb : c.code = cc) (hK : va_K D cl tys s) (hP : va_P D cl ws H) (q0 t0 : Nat) {cA : ClassId} {n : Nat} {g : Int → Int32} (ha : ws[q0]? = some (a, .inl (cA, n, .inl (fun j : Nat => g (j : Int))))) (ht : tys[t0]? = some (cA, .byte)) {z : Int} (hz : 0 ≤ z ∧ z < n) (hn : n < 2147483648) (hdg : decode cc pc = .ok (.baload, 1))
    (kk : W p l e R s m args below meth c H locs cells slots Q (F0 m (pc + 1) ls (.int (g z) :: rest))) : W p l e R s m args below meth c H locs cells slots Q (F0 m pc ls (.int (iI z) :: .ref a :: rest)) := by
  refine va_bald hx hb hK hP q0 t0 ha ht (iI_in hz hn) hdg ?_
  rw [iI_clamp (by omega)]
  show W p l e R s m args below meth c H locs cells slots Q (F0 m (pc + 1) ls (.int (g (z.toNat : Int)) :: rest))
  rw [Int.toNat_of_nonneg hz.1]
  exact kk
theorem cx_zald {a : Nat} (hx : p.tables.exec = Jvm.exec) (hb : c.code = cc) (hK : va_K D cl tys s) (hP : va_P D cl ws H) (q0 t0 : Nat) {cA : ClassId} {n : Nat} {g : Int → Int32} (ha : ws[q0]? = some (a, .inl (cA, n, .inl (fun j : Nat => g (j : Int))))) (ht : tys[t0]? = some (cA, .boolean)) {z : Int} (hz : 0 ≤ z ∧ z < n) (hn : n < 2147483648) (hdg : decode cc pc = .ok (.baload, 1))
    (kk : W p l e R s m args below meth c H locs cells slots Q (F0 m (pc + 1) ls (.int (g z) :: rest))) : W p l e R s m args below meth c H locs cells slots Q (F0 m pc ls (.int (iI z) :: .ref a :: rest)) := by
  refine va_zald hx hb hK hP q0 t0 ha ht (iI_in hz hn) hdg ?_
  rw [iI_clamp (by omega)]
  show W p l e R s m args below meth c H locs cells slots Q (F0 m (pc + 1) ls (.int (g (z.toNat : Int)) :: rest))
  rw [Int.toNat_of_nonneg hz.1]
  exact kk
theorem cx_iast {a : Nat} (hx : p.tables.exec = Jvm.exec) (hb : c.code = cc) (hK : va_K D cl tys s) (hP : va_P D cl ws H) (hD : va_D A ws) (hS : va_S A H0 H locs) (q0 t0 : Nat) {cA : ClassId} {n : Nat} {g g' : Int → Int32} (ha : ws[q0]? = some (a, .inl (cA, n, .inl (fun j : Nat => g (j : Int))))) (ht : tys[t0]? = some (cA, .int)) {z : Int} {x : Int32} (hz : 0 ≤ z ∧ z < n) (hn : n < 2147483648) (hg : ∀ j : Int, fu g z x j = g' j) (hdg : decode cc pc = .ok (.iastore, 1))
    (kk : ∀ (H1 : Heap) (locs1 : List Loc), va_P D cl (ws.set q0 (a, .inl (cA, n, .inl (fun j : Nat => g' (j : Int))))) H1 → va_D A (ws.set q0 (a, .inl (cA, n, .inl (fun j : Nat => g' (j : Int))))) → va_S A H0 H1 locs1 → W p l e R s m args below meth c H1 locs1 cells slots Q (F0 m (pc + 1) ls rest)) : W p l e R s m args below meth c H locs cells slots Q (F0 m pc ls (.int x :: .int (iI z) :: .ref a :: rest)) := by
  refine va_iast hx hb hK hP hD hS q0 t0 ha ht (iI_in hz hn) hdg (fun H1 locs1 => ?_)
  rw [iI_clamp (by omega), fu_upd hz.1, show (fun j : Nat => fu g z x (j : Int)) = fun j : Nat => g' (j : Int) from funext fun j => hg j]
  exact kk H1 locs1
end CX2
section CX3
variable {l : Launch} {y : MethodName} {ws ws' : List Cond} {rm : Room} {D : va_G} {cl : List vw_C} {tys : List (ClassId × FieldType)} {nw : List Cond} {sz : Nat} {wc : va_W} {av : List Value} {cc : ByteArray} {maxL : Nat}
/-- contracts of methods that make nothing; their answer an int, a boolean, nothing, a long -/
abbrev MI (l : Launch) (y : MethodName) (ws : List Cond) (rm : Room) (D : va_G) (cl : List vw_C) (tys : List (ClassId × FieldType)) (nw : List Cond) (sz : Nat) (av : List Value) (wc : va_W) {S : Type} (post : Int32 → S → Prop) (wn : S → va_W) : Prop := Met l y ws rm (va_Pc av (cx_B D cl tys nw sz wc)) (cxI D cl post wn (va_A wc sz)) 0 0 (va_A wc sz)
abbrev MV (l : Launch) (y : MethodName) (ws : List Cond) (rm : Room) (D : va_G) (cl : List vw_C) (tys : List (ClassId × FieldType)) (nw : List Cond) (sz : Nat) (av : List Value) (wc : va_W) {S : Type} (post : S → Prop) (wn : S → va_W) : Prop := Met l y ws rm (va_Pc av (cx_B D cl tys nw sz wc)) (cxV D cl post wn (va_A wc sz)) 0 0 (va_A wc sz)
abbrev ML (l : Launch) (y : MethodName) (ws : List Cond) (rm : Room) (D : va_G) (cl : List vw_C) (tys : List (ClassId × FieldType)) (nw : List Cond) (sz : Nat) (av : List Value) (wc : va_W) {S : Type} (post : Int64 → S → Prop) (wn : S → va_W) : Prop := Met l y ws rm (va_Pc av (cx_B D cl tys nw sz wc)) (cxL D cl post wn (va_A wc sz)) 0 0 (va_A wc sz)
theorem cx_inI {S : Type} {post : Int32 → S → Prop} {wn : S → va_W} (hy : plainName y.cls = true) (hw : ws = Cond.code y cc maxL (some .int) :: ws') (hn : (lg_sl av).length ≤ maxL)
    (body : ∀ (p : Program) (e : Env) (s : State) (m : MethodId) (below : List Frame) (meth : Method) (c : Code) (ls : Array Slot) (A : Nat → Prop) (Q : State → Prop), p.tables.exec = Jvm.exec → c.code = cc → c.maxLocals = maxL → (∀ w ∈ ws', w.before av.toArray s = true) → s.vm.findClass y.cls = some m.cls →
      (∀ {H : Heap} {locs : List Loc} {ls : Array Slot} {pc : Nat} {v : Int32} (u : S), post v u → va_P D cl (wn u) H → va_D A (wn u) → va_S A s.heap H locs → decode cc pc = .ok (.ireturn, 1) → W p l e rm s m av.toArray below meth c H locs 0 0 Q (F0 m pc ls [.int v])) →
      va_P D cl wc s.heap → va_K D cl tys s → va_D A wc → cx_N nw s → va_S A s.heap s.heap [] → (∀ q : Nat, s.heap.size ≤ q → A q) → lv_has ls maxL (lv_args 0 av) → W p l e rm s m av.toArray below meth c s.heap [] 0 0 Q (F0 m 0 ls [])) :
    MI l y ws rm D cl tys nw sz av wc post wn :=
  cx_in (Qf := fun A => cxI D cl post wn A) hy hw hn (fun p e s m below meth c ls A hx hb hr hml hts hown hlocks _ hP hK hD hN hS hA hl => body p e s m below meth c ls A _ hx hb hml hts hown (fun u hq hP hD hS hdg => cx_iret hx hb hr hlocks u hq hP hD hS hdg) hP hK hD hN hS hA hl)
theorem cx_inZ {S : Type} {post : Int32 → S → Prop} {wn : S → va_W} (hy : plainName y.cls = true) (hw : ws = Cond.code y cc maxL (some .boolean) :: ws') (hn : (lg_sl av).length ≤ maxL)
    (body : ∀ (p : Program) (e : Env) (s : State) (m : MethodId) (below : List Frame) (meth : Method) (c : Code) (ls : Array Slot) (A : Nat → Prop) (Q : State → Prop), p.tables.exec = Jvm.exec → c.code = cc → c.maxLocals = maxL → (∀ w ∈ ws', w.before av.toArray s = true) → s.vm.findClass y.cls = some m.cls →
      (∀ {H : Heap} {locs : List Loc} {ls : Array Slot} {pc : Nat} {v : Int32} (u : S), (v = iI 0 ∨ v = iI 1) → post v u → va_P D cl (wn u) H → va_D A (wn u) → va_S A s.heap H locs → decode cc pc = .ok (.ireturn, 1) → W p l e rm s m av.toArray below meth c H locs 0 0 Q (F0 m pc ls [.int v])) →
      va_P D cl wc s.heap → va_K D cl tys s → va_D A wc → cx_N nw s → va_S A s.heap s.heap [] → (∀ q : Nat, s.heap.size ≤ q → A q) → lv_has ls maxL (lv_args 0 av) → W p l e rm s m av.toArray below meth c s.heap [] 0 0 Q (F0 m 0 ls [])) :
    MI l y ws rm D cl tys nw sz av wc post wn :=
  cx_in (Qf := fun A => cxI D cl post wn A) hy hw hn (fun p e s m below meth c ls A hx hb hr hml hts hown hlocks _ hP hK hD hN hS hA hl => body p e s m below meth c ls A _ hx hb hml hts hown (fun u hv hq hP hD hS hdg => cx_zret hx hb hr hlocks u hv hq hP hD hS hdg) hP hK hD hN hS hA hl)
theorem cx_inV {S : Type} {post : S → Prop} {wn : S → va_W} (hy : plainName y.cls = true) (hw : ws = Cond.code y cc maxL none :: ws') (hn : (lg_sl av).length ≤ maxL)
    (body : ∀ (p : Program) (e : Env) (s : State) (m : MethodId) (below : List Frame) (meth : Method) (c : Code) (ls : Array Slot) (A : Nat → Prop) (Q : State → Prop), p.tables.exec = Jvm.exec → c.code = cc → c.maxLocals = maxL → (∀ w ∈ ws', w.before av.toArray s = true) → s.vm.findClass y.cls = some m.cls →
      (∀ {H : Heap} {locs : List Loc} {ls : Array Slot} {pc : Nat} (u : S), post u → va_P D cl (wn u) H → va_D A (wn u) → va_S A s.heap H locs → decode cc pc = .ok (.return_, 1) → W p l e rm s m av.toArray below meth c H locs 0 0 Q (F0 m pc ls [])) →
      va_P D cl wc s.heap → va_K D cl tys s → va_D A wc → cx_N nw s → va_S A s.heap s.heap [] → (∀ q : Nat, s.heap.size ≤ q → A q) → lv_has ls maxL (lv_args 0 av) → W p l e rm s m av.toArray below meth c s.heap [] 0 0 Q (F0 m 0 ls [])) :
    MV l y ws rm D cl tys nw sz av wc post wn :=
  cx_in (Qf := fun A => cxV D cl post wn A) hy hw hn (fun p e s m below meth c ls A hx hb hr hml hts hown hlocks _ hP hK hD hN hS hA hl => body p e s m below meth c ls A _ hx hb hml hts hown (fun u hq hP hD hS hdg => cx_vret hx hb hr hlocks u hq hP hD hS hdg) hP hK hD hN hS hA hl)
theorem cx_inL {S : Type} {post : Int64 → S → Prop} {wn : S → va_W} (hy : plainName y.cls = true) (hw : ws = Cond.code y cc maxL (some .long) :: ws') (hn : (lg_sl av).length ≤ maxL)
    (body : ∀ (p : Program) (e : Env) (s : State) (m : MethodId) (below : List Frame) (meth : Method) (c : Code) (ls : Array Slot) (A : Nat → Prop) (Q : State → Prop), p.tables.exec = Jvm.exec → c.code = cc → c.maxLocals = maxL → (∀ w ∈ ws', w.before av.toArray s = true) → s.vm.findClass y.cls = some m.cls →
      (∀ {H : Heap} {locs : List Loc} {ls : Array Slot} {pc : Nat} {v : Int64} (u : S), post v u → va_P D cl (wn u) H → va_D A (wn u) → va_S A s.heap H locs → decode cc pc = .ok (.lreturn, 1) → W p l e rm s m av.toArray below meth c H locs 0 0 Q (F0 m pc ls [.long v])) →
      va_P D cl wc s.heap → va_K D cl tys s → va_D A wc → cx_N nw s → va_S A s.heap s.heap [] → (∀ q : Nat, s.heap.size ≤ q → A q) → lv_has ls maxL (lv_args 0 av) → W p l e rm s m av.toArray below meth c s.heap [] 0 0 Q (F0 m 0 ls [])) :
    ML l y ws rm D cl tys nw sz av wc post wn :=
  cx_in (Qf := fun A => cxL D cl post wn A) hy hw hn (fun p e s m below meth c ls A hx hb hr hml hts hown hlocks _ hP hK hD hN hS hA hl => body p e s m below meth c ls A _ hx hb hml hts hown (fun u hq hP hD hS hdg => cx_lret hx hb hr hlocks u hq hP hD hS hdg) hP hK hD hN hS hA hl)
end CX3
end
section
/-! calls: the words of a callee, and one row a call -/
abbrev tyL (T : Nat → ClassId) : List (ClassId × FieldType) := [(T 0, .int), (T 1, .byte), (T 2, .boolean), (T 3, .long)]
abbrev rmK (k : Nat) : Room := { frames := k, cells := 0, slots := 0, locals := 40 * k }
abbrev wY (y : MethodName) (b : ByteArray) (n : Nat) (r : Option FieldType) : List Cond := Cond.code y b n r :: BIG
theorem nwL_ok : nwL.all cx_isN = true := by decide +kernel
theorem big_good {c : Cond} (h : c ∈ BIG) : GoodIn BIG (c :: BIG) := fun w hw => by
  have hm : w ∈ BIG := by
    rcases List.mem_cons.mp hw with rfl | h1
    · exact h
    · exact h1
  exact ⟨hm, good_of_word (List.mem_filter.mp hm).2⟩
abbrev okD (y : MethodName) (n : Nat) : Prop := y.cls ≠ "java/lang/invoke/MethodHandle" ∧ y.cls ≠ "java/lang/invoke/VarHandle" ∧ (parseMethodDescriptor y.desc).map (fun d => d.parameters.length) = some n
def okV (C : String) (y : MethodName) (b : ByteArray) (k : Nat) (r : Option FieldType) (n : Nat) : Prop := Cond.code y b k r ∈ BIG ∧ Cond.instanceMethod y ∈ BIG ∧ Cond.selects C y y ∈ BIG ∧ Cond.initialized y.cls ∈ BIG ∧ okD y n
def okS (y : MethodName) (b : ByteArray) (k : Nat) (r : Option FieldType) (n : Nat) : Prop := Cond.code y b k r ∈ BIG ∧ Cond.static y ∈ BIG ∧ Cond.initialized y.cls ∈ BIG ∧ okD y n
def okI (y : MethodName) (b : ByteArray) (k : Nat) (n : Nat) : Prop := Cond.code y b k none ∈ BIG ∧ Cond.instanceMethod y ∈ BIG ∧ Cond.initialized y.cls ∈ BIG ∧ y.name = "<init>" ∧ okD y n
section CX4
variable {p : Program} {l : Launch} {e : Env} {R : Room} {s : State} {m : MethodId} {args : Array Value} {below : List Frame} {meth : Method} {c : Code} {H : Heap} {locs : List Loc} {cells slots : Nat} {Q : State → Prop}
variable {cc bytes : ByteArray} {pc nL maxL n index : Nat} {ls : Array Slot} {rest st0 As : List Value} {D : va_G} {A : Nat → Prop} {T : Nat → ClassId} {ws wc wr : va_W} {H0 : Heap} {own C : String} {y : MethodName} {ret : Option FieldType} {rm : Room} {b : Nat} {Qc : Array Value → State → Outcome → State → Prop} {free : Addr → Prop} {Pc : Array Value → State → Prop} {mc ms : Nat}
theorem cx_wV (hT : ∀ w ∈ BIG, w.before args s = true) (hl : Cond.methodLink own index y ∈ BIG) (k : okV C y bytes maxL ret n) (hR : rm.frames + 1 ≤ R.frames ∧ 8 + (maxL + 11) + rm.locals ≤ R.locals) (hc : rm.cells = mc ∧ rm.slots = ms) : CallW R s args own C index y bytes maxL ret (wY y bytes maxL ret) rm mc ms n :=
  ⟨callB_of n hT (big_good k.1) rfl hc.1 hc.2 (hT _ k.2.2.2.1) (hT _ hl) k.2.2.2.2 hR, hT _ k.2.1, hT _ k.2.2.1⟩
theorem cx_wS (hT : ∀ w ∈ BIG, w.before args s = true) (hl : Cond.methodLink own index y ∈ BIG) (k : okS y bytes maxL ret n) (hR : rm.frames + 1 ≤ R.frames ∧ 8 + (maxL + 11) + rm.locals ≤ R.locals) (hc : rm.cells = mc ∧ rm.slots = ms) : CallB R s args own index y bytes maxL ret (wY y bytes maxL ret) rm mc ms n ∧ (Cond.static y).before args s = true :=
  ⟨callB_of n hT (big_good k.1) rfl hc.1 hc.2 (hT _ k.2.2.1) (hT _ hl) k.2.2.2 hR, hT _ k.2.1⟩
theorem cx_wI (hT : ∀ w ∈ BIG, w.before args s = true) (hl : Cond.methodLink own index y ∈ BIG) (k : okI y bytes maxL n) (hR : rm.frames + 1 ≤ R.frames ∧ 8 + (maxL + 11) + rm.locals ≤ R.locals) (hc : rm.cells = mc ∧ rm.slots = ms) : CallB R s args own index y bytes maxL none (wY y bytes maxL none) rm mc ms n ∧ y.name = "<init>" ∧ (Cond.instanceMethod y).before args s = true :=
  ⟨callB_of n hT (big_good k.1) rfl hc.1 hc.2 (hT _ k.2.2.1) (hT _ hl) k.2.2.2.2 hR, k.2.2.2.1, hT _ k.2.1⟩
theorem cx_wSN {host : String} (hT : ∀ w ∈ BIG, w.before args s = true) (hN : cx_N nwL s) (hl : Cond.methodLinkNest own index y host ∈ nwL) (k : okS y bytes maxL ret n) (hR : rm.frames + 1 ≤ R.frames ∧ 8 + (maxL + 11) + rm.locals ≤ R.locals) (hc : rm.cells = mc ∧ rm.slots = ms) : va_CN R s args own index y host bytes maxL ret (wY y bytes maxL ret) rm mc ms n ∧ (Cond.static y).before args s = true ∧ True :=
  ⟨va_cnB n hT (big_good k.1) rfl hc.1 hc.2 (hN _ hl) (hT _ k.2.2.1) k.2.2.2 hR, hT _ k.2.1, trivial⟩
/-- a call of a method on an object, of a static one, of a nest mate's static one: how it runs -/
theorem cx_rV {q0 ci : Nat} {r : vw_C} {fs : List Value} (hx : p.tables.exec = Jvm.exec) (hb : c.code = cc) (hml : c.maxLocals = nL) (hown : s.vm.findClass own = some m.cls) (hT : ∀ w ∈ BIG, w.before args s = true) (hK : va_K D vwCl (tyL T) s) (hN : cx_N nwL s) (hP : va_P D vwCl ws H) (hD : va_D A ws)
    (hls : ls.size = nL) (hl : Cond.methodLink own index y ∈ BIG) (k : okV r.1 y bytes maxL ret n) (hM : Met l y (wY y bytes maxL ret) rm (va_Pc (.ref b :: As) (cx_B D vwCl (tyL T) nwL H.size wc)) Qc 0 0 free) (hR : rm.frames + 1 ≤ R.frames ∧ 8 + (maxL + 11) + rm.locals ≤ R.locals) (hc : rm.cells = 0 ∧ rm.slots = 0)
    (isC : List Nat) (hnC : va_nd isC = true) (hC : isC.map (fun i => ws[i]?) = wc.map some) (hci : vwCl[ci]? = some r) (he : ws[q0]? = some (b, .inr (ci, fs))) (hn : As.length = n) (hst : st0 = As.reverse ++ .ref b :: rest) (hcat : (rest.map fun v => v.category).sum ≤ 8) (hf : cells ≤ R.cells ∧ slots ≤ R.slots) (hdg : decode cc pc = .ok (.invokevirtual index, 3)) :
    va_Run p l e R s m args below meth c H locs cells slots 0 0 (F0 m pc ls st0) rest (Qc (Value.ref b :: As).toArray) free :=
  va_runV ⟨hx, hb, hml, hown, hT⟩ hM (cx_wV hT hl k hR hc) (cx_pV nwL_ok hK hN hP hD isC hnC hC hci he) rfl hn hls hst (lv_room hcat) hdg hf
theorem cx_rS (hx : p.tables.exec = Jvm.exec) (hb : c.code = cc) (hml : c.maxLocals = nL) (hown : s.vm.findClass own = some m.cls) (hT : ∀ w ∈ BIG, w.before args s = true) (hK : va_K D vwCl (tyL T) s) (hN : cx_N nwL s) (hP : va_P D vwCl ws H) (hD : va_D A ws)
    (hls : ls.size = nL) (hl : Cond.methodLink own index y ∈ BIG) (k : okS y bytes maxL ret n) (hM : Met l y (wY y bytes maxL ret) rm (va_Pc As (cx_B D vwCl (tyL T) nwL H.size wc)) Qc 0 0 free) (hR : rm.frames + 1 ≤ R.frames ∧ 8 + (maxL + 11) + rm.locals ≤ R.locals) (hc : rm.cells = 0 ∧ rm.slots = 0)
    (isC : List Nat) (hnC : va_nd isC = true) (hC : isC.map (fun i => ws[i]?) = wc.map some) (hn : As.length = n) (hst : st0 = As.reverse ++ rest) (hcat : (rest.map fun v => v.category).sum ≤ 8) (hf : cells ≤ R.cells ∧ slots ≤ R.slots) (hdg : decode cc pc = .ok (.invokestatic index, 3)) :
    va_Run p l e R s m args below meth c H locs cells slots 0 0 (F0 m pc ls st0) rest (Qc As.toArray) free :=
  va_runS ⟨hx, hb, hml, hown, hT⟩ hM (cx_wS hT hl k hR hc) (cx_pS nwL_ok hK hN hP hD isC hnC hC) rfl hn hls hst (lv_room hcat) hdg hf
theorem cx_rN {host : String} (hx : p.tables.exec = Jvm.exec) (hb : c.code = cc) (hml : c.maxLocals = nL) (hown : s.vm.findClass own = some m.cls) (hT : ∀ w ∈ BIG, w.before args s = true) (hK : va_K D vwCl (tyL T) s) (hN : cx_N nwL s) (hP : va_P D vwCl ws H) (hD : va_D A ws)
    (hls : ls.size = nL) (hl : Cond.methodLinkNest own index y host ∈ nwL) (k : okS y bytes maxL ret n) (hM : Met l y (wY y bytes maxL ret) rm (va_Pc As (cx_B D vwCl (tyL T) nwL H.size wc)) Qc 0 0 free) (hR : rm.frames + 1 ≤ R.frames ∧ 8 + (maxL + 11) + rm.locals ≤ R.locals) (hc : rm.cells = 0 ∧ rm.slots = 0)
    (isC : List Nat) (hnC : va_nd isC = true) (hC : isC.map (fun i => ws[i]?) = wc.map some) (hn : As.length = n) (hst : st0 = As.reverse ++ rest) (hcat : (rest.map fun v => v.category).sum ≤ 8) (hf : cells ≤ R.cells ∧ slots ≤ R.slots) (hdg : decode cc pc = .ok (.invokestatic index, 3)) :
    va_Run p l e R s m args below meth c H locs cells slots 0 0 (F0 m pc ls st0) rest (Qc As.toArray) free :=
  va_runSN ⟨hx, hb, hml, hown, hT⟩ hM (cx_wSN hT hN hl k hR hc) (cx_pS nwL_ok hK hN hP hD isC hnC hC) rfl hn hls hst (lv_room hcat) hdg hf
end CX4
end
section
theorem k_AR_init : okI y_AR_init b_AR_init 2 1 := ⟨tw_65, tw_64, tw_5, rfl, by decide +kernel, by decide +kernel, by decide +kernel⟩
theorem k_AR_readDigits : okV R_AR y_AR_readDigits b_AR_readDigits 5 none 3 := ⟨tw_377, tw_375, tw_376, tw_5, by decide +kernel, by decide +kernel, by decide +kernel⟩
theorem k_AR_replace : okV R_AR y_AR_replace b_AR_replace 4 none 2 := ⟨tw_382, tw_380, tw_381, tw_5, by decide +kernel, by decide +kernel, by decide +kernel⟩
theorem k_AR_add : okV R_AR y_AR_add b_AR_add 7 (some .boolean) 2 := ⟨tw_406, tw_404, tw_405, tw_5, by decide +kernel, by decide +kernel, by decide +kernel⟩
theorem k_AR_subtract : okV R_AR y_AR_subtract b_AR_subtract 8 none 3 := ⟨tw_415, tw_413, tw_414, tw_5, by decide +kernel, by decide +kernel, by decide +kernel⟩
theorem k_AR_isGreater : okV R_AR y_AR_isGreater b_AR_isGreater 5 (some .boolean) 2 := ⟨tw_411, tw_409, tw_410, tw_5, by decide +kernel, by decide +kernel, by decide +kernel⟩
theorem k_PI_init : okI y_PI_init b_PI_init 3 2 := ⟨tw_40, tw_39, tw_3, rfl, by decide +kernel, by decide +kernel, by decide +kernel⟩
theorem k_PI_filled : okV R_PI y_PI_filled b_PI_filled 1 (some .int) 0 := ⟨tw_186, tw_184, tw_185, tw_3, by decide +kernel, by decide +kernel, by decide +kernel⟩
theorem k_PI_isFull : okV R_PI y_PI_isFull b_PI_isFull 1 (some .boolean) 0 := ⟨tw_289, tw_287, tw_288, tw_3, by decide +kernel, by decide +kernel, by decide +kernel⟩
theorem k_PI_holds : okV R_PI y_PI_holds b_PI_holds 3 (some .boolean) 2 := ⟨tw_594, tw_592, tw_593, tw_3, by decide +kernel, by decide +kernel, by decide +kernel⟩
theorem k_PI_character : okV R_PI y_PI_character b_PI_character 3 (some .int) 2 := ⟨tw_519, tw_517, tw_518, tw_3, by decide +kernel, by decide +kernel, by decide +kernel⟩
theorem k_PI_write : okV R_PI y_PI_write b_PI_write 3 none 2 := ⟨tw_165, tw_163, tw_164, tw_3, by decide +kernel, by decide +kernel, by decide +kernel⟩
theorem k_PI_close : okV R_PI y_PI_close b_PI_close 1 none 0 := ⟨tw_308, tw_306, tw_307, tw_3, by decide +kernel, by decide +kernel, by decide +kernel⟩
theorem k_PI_copy : okV R_PI y_PI_copy b_PI_copy 4 none 2 := ⟨tw_532, tw_530, tw_531, tw_3, by decide +kernel, by decide +kernel, by decide +kernel⟩
theorem k_PR_init : okI y_PR_init b_PR_init 5 4 := ⟨tw_59, tw_58, tw_4, rfl, by decide +kernel, by decide +kernel, by decide +kernel⟩
theorem k_PR_cardsToRead : okV R_PR y_PR_cardsToRead b_PR_cardsToRead 1 (some .int) 0 := ⟨tw_182, tw_180, tw_181, tw_4, by decide +kernel, by decide +kernel, by decide +kernel⟩
theorem k_PR_step : okV R_PR y_PR_step b_PR_step 4 (some .int) 0 := ⟨tw_319, tw_317, tw_318, tw_4, by decide +kernel, by decide +kernel, by decide +kernel⟩
theorem k_PR_instructionLength : okV R_PR y_PR_instructionLength b_PR_instructionLength 2 (some .int) 0 := ⟨tw_329, tw_328, tp_1, tw_4, by decide +kernel, by decide +kernel, by decide +kernel⟩
theorem k_PR_allows : okS y_PR_allows b_PR_allows 2 (some .boolean) 2 := ⟨tw_332, tw_331, tw_4, by decide +kernel, by decide +kernel, by decide +kernel⟩
theorem k_PR_takeAddresses : okV R_PR y_PR_takeAddresses b_PR_takeAddresses 3 none 2 := ⟨tw_336, tw_335, tp_2, tw_4, by decide +kernel, by decide +kernel, by decide +kernel⟩
theorem k_PR_keepsB : okS y_PR_keepsB b_PR_keepsB 1 (some .boolean) 1 := ⟨tw_351, tw_350, tw_4, by decide +kernel, by decide +kernel, by decide +kernel⟩
theorem k_PR_perform : okV R_PR y_PR_perform b_PR_perform 4 (some .int) 3 := ⟨tw_355, tw_354, tp_3, tw_4, by decide +kernel, by decide +kernel, by decide +kernel⟩
theorem k_PR_goThere : okV R_PR y_PR_goThere b_PR_goThere 2 none 0 := ⟨tw_478, tw_477, tp_13, tw_4, by decide +kernel, by decide +kernel, by decide +kernel⟩
theorem k_PR_modifier : okV R_PR y_PR_modifier b_PR_modifier 1 (some .int) 0 := ⟨tw_493, tw_492, tp_16, tw_4, by decide +kernel, by decide +kernel, by decide +kernel⟩
theorem k_PR_calculate : okV R_PR y_PR_calculate b_PR_calculate 6 (some .int) 2 := ⟨tw_359, tw_358, tp_4, tw_4, by decide +kernel, by decide +kernel, by decide +kernel⟩
theorem k_PR_addSigned : okV R_PR y_PR_addSigned b_PR_addSigned 5 none 2 := ⟨tw_402, tw_401, tp_5, tw_4, by decide +kernel, by decide +kernel, by decide +kernel⟩
theorem k_PR_move : okV R_PR y_PR_move b_PR_move 3 (some .int) 0 := ⟨tw_419, tw_418, tp_6, tw_4, by decide +kernel, by decide +kernel, by decide +kernel⟩
theorem k_PR_load : okV R_PR y_PR_load b_PR_load 2 (some .int) 0 := ⟨tw_431, tw_430, tp_7, tw_4, by decide +kernel, by decide +kernel, by decide +kernel⟩
theorem k_PR_moveBits : okV R_PR y_PR_moveBits b_PR_moveBits 2 (some .int) 1 := ⟨tw_446, tw_445, tp_8, tw_4, by decide +kernel, by decide +kernel, by decide +kernel⟩
theorem k_PR_compare : okV R_PR y_PR_compare b_PR_compare 2 (some .int) 0 := ⟨tw_450, tw_449, tp_9, tw_4, by decide +kernel, by decide +kernel, by decide +kernel⟩
theorem k_PR_orderOf : okV R_PR y_PR_orderOf b_PR_orderOf 4 (some .int) 1 := ⟨tw_454, tw_453, tp_10, tw_4, by decide +kernel, by decide +kernel, by decide +kernel⟩
theorem k_PR_rank : okS y_PR_rank b_PR_rank 5 (some .int) 1 := ⟨tw_457, tw_456, tw_4, by decide +kernel, by decide +kernel, by decide +kernel⟩
theorem k_PR_changeMarks : okV R_PR y_PR_changeMarks b_PR_changeMarks 2 (some .int) 1 := ⟨tw_464, tw_463, tp_11, tw_4, by decide +kernel, by decide +kernel, by decide +kernel⟩
theorem k_PR_clear : okV R_PR y_PR_clear b_PR_clear 4 (some .int) 1 := ⟨tw_473, tw_472, tp_12, tw_4, by decide +kernel, by decide +kernel, by decide +kernel⟩
theorem k_PR_suppressZeros : okV R_PR y_PR_suppressZeros b_PR_suppressZeros 3 (some .int) 0 := ⟨tw_482, tw_481, tp_14, tw_4, by decide +kernel, by decide +kernel, by decide +kernel⟩
theorem k_PR_isSuppressed : okS y_PR_isSuppressed b_PR_isSuppressed 1 (some .boolean) 1 := ⟨tw_485, tw_484, tw_4, by decide +kernel, by decide +kernel, by decide +kernel⟩
theorem k_PR_branch : okV R_PR y_PR_branch b_PR_branch 3 (some .int) 1 := ⟨tw_489, tw_488, tp_15, tw_4, by decide +kernel, by decide +kernel, by decide +kernel⟩
theorem k_PR_isIndicated : okV R_PR y_PR_isIndicated b_PR_isIndicated 2 (some .boolean) 1 := ⟨tw_497, tw_496, tp_17, tw_4, by decide +kernel, by decide +kernel, by decide +kernel⟩
theorem k_PR_takeOverflow : okV R_PR y_PR_takeOverflow b_PR_takeOverflow 2 (some .boolean) 0 := ⟨tw_501, tw_500, tp_18, tw_4, by decide +kernel, by decide +kernel, by decide +kernel⟩
theorem k_PR_branchByPosition : okV R_PR y_PR_branchByPosition b_PR_branchByPosition 2 (some .int) 0 := ⟨tw_505, tw_504, tp_19, tw_4, by decide +kernel, by decide +kernel, by decide +kernel⟩
theorem k_PR_isAsAsked : okV R_PR y_PR_isAsAsked b_PR_isAsAsked 4 (some .boolean) 2 := ⟨tw_509, tw_508, tp_20, tw_4, by decide +kernel, by decide +kernel, by decide +kernel⟩
theorem k_PR_readCard : okV R_PR y_PR_readCard b_PR_readCard 3 (some .int) 1 := ⟨tw_514, tw_513, tp_21, tw_4, by decide +kernel, by decide +kernel, by decide +kernel⟩
theorem k_PR_fillRow : okV R_PR y_PR_fillRow b_PR_fillRow 5 (some .int) 4 := ⟨tw_527, tw_526, tp_23, tw_4, by decide +kernel, by decide +kernel, by decide +kernel⟩
theorem k_PR_endTransfer : okV R_PR y_PR_endTransfer b_PR_endTransfer 3 none 2 := ⟨tw_523, tw_522, tp_22, tw_4, by decide +kernel, by decide +kernel, by decide +kernel⟩
theorem k_PR_storeAddress : okV R_PR y_PR_storeAddress b_PR_storeAddress 2 (some .int) 1 := ⟨tw_539, tw_538, tp_24, tw_4, by decide +kernel, by decide +kernel, by decide +kernel⟩
theorem k_PR_halt : okV R_PR y_PR_halt b_PR_halt 2 (some .int) 1 := ⟨tw_551, tw_550, tp_25, tw_4, by decide +kernel, by decide +kernel, by decide +kernel⟩
theorem k_ST_init : okI y_ST_init b_ST_init 2 1 := ⟨tw_29, tw_28, tw_2, rfl, by decide +kernel, by decide +kernel, by decide +kernel⟩
theorem k_ST_size : okV R_ST y_ST_size b_ST_size 1 (some .int) 0 := ⟨tw_70, tw_68, tw_69, tw_2, by decide +kernel, by decide +kernel, by decide +kernel⟩
theorem k_ST_has : okV R_ST y_ST_has b_ST_has 2 (some .boolean) 1 := ⟨tw_150, tw_148, tw_149, tw_2, by decide +kernel, by decide +kernel, by decide +kernel⟩
theorem k_ST_hasSpan : okV R_ST y_ST_hasSpan b_ST_hasSpan 3 (some .boolean) 2 := ⟨tw_435, tw_433, tw_434, tw_2, by decide +kernel, by decide +kernel, by decide +kernel⟩
theorem k_ST_character : okV R_ST y_ST_character b_ST_character 2 (some .int) 1 := ⟨tw_325, tw_323, tw_324, tw_2, by decide +kernel, by decide +kernel, by decide +kernel⟩
theorem k_ST_hasMark : okV R_ST y_ST_hasMark b_ST_hasMark 2 (some .boolean) 1 := ⟨tw_195, tw_193, tw_194, tw_2, by decide +kernel, by decide +kernel, by decide +kernel⟩
theorem k_ST_zone : okV R_ST y_ST_zone b_ST_zone 2 (some .int) 1 := ⟨tw_344, tw_342, tw_343, tw_2, by decide +kernel, by decide +kernel, by decide +kernel⟩
theorem k_ST_digit : okV R_ST y_ST_digit b_ST_digit 2 (some .int) 1 := ⟨tw_348, tw_346, tw_347, tw_2, by decide +kernel, by decide +kernel, by decide +kernel⟩
theorem k_ST_isMinus : okV R_ST y_ST_isMinus b_ST_isMinus 2 (some .boolean) 1 := ⟨tw_373, tw_371, tw_372, tw_2, by decide +kernel, by decide +kernel, by decide +kernel⟩
theorem k_ST_place : okV R_ST y_ST_place b_ST_place 4 none 3 := ⟨tw_157, tw_155, tw_156, tw_2, by decide +kernel, by decide +kernel, by decide +kernel⟩
theorem k_ST_write : okV R_ST y_ST_write b_ST_write 3 none 2 := ⟨tw_389, tw_387, tw_388, tw_2, by decide +kernel, by decide +kernel, by decide +kernel⟩
theorem k_ST_writeZone : okV R_ST y_ST_writeZone b_ST_writeZone 3 none 2 := ⟨tw_396, tw_394, tw_395, tw_2, by decide +kernel, by decide +kernel, by decide +kernel⟩
theorem k_ST_mark : okV R_ST y_ST_mark b_ST_mark 3 none 2 := ⟨tw_468, tw_466, tw_467, tw_2, by decide +kernel, by decide +kernel, by decide +kernel⟩
theorem k_ST_copySpan : okV R_ST y_ST_copySpan b_ST_copySpan 4 none 3 := ⟨tw_439, tw_437, tw_438, tw_2, by decide +kernel, by decide +kernel, by decide +kernel⟩
theorem k_ST_fieldLength1 : okV R_ST y_ST_fieldLength1 b_ST_fieldLength1 2 (some .int) 1 := ⟨tw_363, tw_361, tw_362, tw_2, by decide +kernel, by decide +kernel, by decide +kernel⟩
theorem k_ST_fieldLength2 : okV R_ST y_ST_fieldLength2 b_ST_fieldLength2 4 (some .int) 2 := ⟨tw_367, tw_365, tw_366, tw_2, by decide +kernel, by decide +kernel, by decide +kernel⟩
theorem k_ST_commonLength : okV R_ST y_ST_commonLength b_ST_commonLength 5 (some .int) 2 := ⟨tw_423, tw_421, tw_422, tw_2, by decide +kernel, by decide +kernel, by decide +kernel⟩
theorem k_ST_address : okV R_ST y_ST_address b_ST_address 3 (some .int) 1 := ⟨tw_340, tw_338, tw_339, tw_2, by decide +kernel, by decide +kernel, by decide +kernel⟩
theorem k_ST_writeAddress : okV R_ST y_ST_writeAddress b_ST_writeAddress 4 none 2 := ⟨tw_546, tw_544, tw_545, tw_2, by decide +kernel, by decide +kernel, by decide +kernel⟩
theorem k_ST_markCount : okV R_ST y_ST_markCount b_ST_markCount 3 (some .int) 0 := ⟨tw_191, tw_189, tw_190, tw_2, by decide +kernel, by decide +kernel, by decide +kernel⟩
theorem k_CM_init : okI y_CM_init b_CM_init 2 1 := ⟨tw_21, tw_20, tw_1, rfl, by decide +kernel, by decide +kernel, by decide +kernel⟩
theorem k_CM_set : okV R_CM y_CM_set b_CM_set 4 (some .boolean) 3 := ⟨tw_146, tw_144, tw_145, tw_1, by decide +kernel, by decide +kernel, by decide +kernel⟩
theorem k_CM_put : okV R_CM y_CM_put b_CM_put 7 (some .int) 3 := ⟨tw_206, tw_204, tw_205, tw_1, by decide +kernel, by decide +kernel, by decide +kernel⟩
theorem k_CM_column : okV R_CM y_CM_column b_CM_column 3 (some .boolean) 2 := ⟨tw_161, tw_159, tw_160, tw_1, by decide +kernel, by decide +kernel, by decide +kernel⟩
theorem k_CM_card : okV R_CM y_CM_card b_CM_card 1 (some .int) 0 := ⟨tw_285, tw_283, tw_284, tw_1, by decide +kernel, by decide +kernel, by decide +kernel⟩
theorem k_CM_start : okV R_CM y_CM_start b_CM_start 2 (some .boolean) 1 := ⟨tw_169, tw_167, tw_168, tw_1, by decide +kernel, by decide +kernel, by decide +kernel⟩
theorem k_CM_run : okV R_CM y_CM_run b_CM_run 4 (some .int) 1 := ⟨tw_315, tw_313, tw_314, tw_1, by decide +kernel, by decide +kernel, by decide +kernel⟩
theorem k_CM_at : okV R_CM y_CM_at b_CM_at 2 (some .int) 1 := ⟨tw_559, tw_557, tw_558, tw_1, by decide +kernel, by decide +kernel, by decide +kernel⟩
theorem k_CM_isMarked : okV R_CM y_CM_isMarked b_CM_isMarked 2 (some .boolean) 1 := ⟨tw_582, tw_580, tw_581, tw_1, by decide +kernel, by decide +kernel, by decide +kernel⟩
theorem k_CM_state : okV R_CM y_CM_state b_CM_state 2 (some .int) 1 := ⟨tw_173, tw_171, tw_172, tw_1, by decide +kernel, by decide +kernel, by decide +kernel⟩
theorem k_CM_printed : okV R_CM y_CM_printed b_CM_printed 3 (some .int) 2 := ⟨tw_590, tw_588, tw_589, tw_1, by decide +kernel, by decide +kernel, by decide +kernel⟩
theorem k_CM_punched : okV R_CM y_CM_punched b_CM_punched 3 (some .int) 2 := ⟨tw_602, tw_600, tw_601, tw_1, by decide +kernel, by decide +kernel, by decide +kernel⟩
theorem k_CM_number : okV R_CM y_CM_number b_CM_number 6 (some .long) 1 := ⟨tw_610, tw_608, tw_609, tw_1, by decide +kernel, by decide +kernel, by decide +kernel⟩
theorem k_CM_count : okV R_CM y_CM_count b_CM_count 2 (some .int) 1 := ⟨tw_178, tw_176, tw_177, tw_1, by decide +kernel, by decide +kernel, by decide +kernel⟩
theorem k_CM_isCharacter : okS y_CM_isCharacter b_CM_isCharacter 1 (some .boolean) 1 := ⟨tw_153, tw_152, tw_1, by decide +kernel, by decide +kernel, by decide +kernel⟩
theorem k_CM_byteOf : okS y_CM_byteOf b_CM_byteOf 3 (some .int) 2 := ⟨tw_212, tw_211, tw_1, by decide +kernel, by decide +kernel, by decide +kernel⟩
theorem k_CM_charactersIn : okS y_CM_charactersIn b_CM_charactersIn 3 (some .int) 1 := ⟨tw_209, tw_208, tw_1, by decide +kernel, by decide +kernel, by decide +kernel⟩
theorem k_CM_written : okS y_CM_written b_CM_written 1 (some .int) 1 := ⟨tw_385, tw_384, tw_1, by decide +kernel, by decide +kernel, by decide +kernel⟩
theorem k_CM_signZone : okS y_CM_signZone b_CM_signZone 1 (some .int) 1 := ⟨tw_392, tw_391, tw_1, by decide +kernel, by decide +kernel, by decide +kernel⟩
theorem k_MO_init : okI y_MO_init b_MO_init 2 1 := ⟨tw_634, tw_633, tw_6, rfl, by decide +kernel, by decide +kernel, by decide +kernel⟩
theorem k_MO_thrown : okV R_MO y_MO_thrown b_MO_thrown 1 (some .int) 0 := ⟨tw_726, tw_724, tw_725, tw_6, by decide +kernel, by decide +kernel, by decide +kernel⟩
theorem k_MO_is : okV R_MO y_MO_is b_MO_is 2 (some .boolean) 1 := ⟨tw_734, tw_733, tp_26, tw_6, by decide +kernel, by decide +kernel, by decide +kernel⟩
theorem k_MO_isCharacter : okS y_MO_isCharacter b_MO_isCharacter 1 (some .boolean) 1 := ⟨tw_737, tw_736, tw_6, by decide +kernel, by decide +kernel, by decide +kernel⟩
theorem k_MO_zone : okS y_MO_zone b_MO_zone 1 (some .int) 1 := ⟨tw_795, tw_794, tw_6, by decide +kernel, by decide +kernel, by decide +kernel⟩
theorem k_MO_value : okS y_MO_value b_MO_value 1 (some .int) 1 := ⟨tw_777, tw_776, tw_6, by decide +kernel, by decide +kernel, by decide +kernel⟩
theorem k_MO_digit : okS y_MO_digit b_MO_digit 1 (some .int) 1 := ⟨tw_806, tw_805, tw_6, by decide +kernel, by decide +kernel, by decide +kernel⟩
theorem k_MO_set : okV R_MO y_MO_set b_MO_set 4 (some .boolean) 3 := ⟨tw_730, tw_728, tw_729, tw_6, by decide +kernel, by decide +kernel, by decide +kernel⟩
theorem k_MO_put : okV R_MO y_MO_put b_MO_put 7 (some .int) 3 := ⟨tw_741, tw_739, tw_740, tw_6, by decide +kernel, by decide +kernel, by decide +kernel⟩
theorem k_MO_column : okV R_MO y_MO_column b_MO_column 3 (some .boolean) 2 := ⟨tw_748, tw_746, tw_747, tw_6, by decide +kernel, by decide +kernel, by decide +kernel⟩
theorem k_MO_card : okV R_MO y_MO_card b_MO_card 2 (some .int) 0 := ⟨tw_752, tw_750, tw_751, tw_6, by decide +kernel, by decide +kernel, by decide +kernel⟩
theorem k_MO_start : okV R_MO y_MO_start b_MO_start 2 (some .boolean) 1 := ⟨tw_756, tw_754, tw_755, tw_6, by decide +kernel, by decide +kernel, by decide +kernel⟩
theorem k_MO_field : okV R_MO y_MO_field b_MO_field 5 (some .int) 2 := ⟨tw_789, tw_788, tp_31, tw_6, by decide +kernel, by decide +kernel, by decide +kernel⟩
theorem k_MO_isMinus : okS y_MO_isMinus b_MO_isMinus 1 (some .boolean) 1 := ⟨tw_792, tw_791, tw_6, by decide +kernel, by decide +kernel, by decide +kernel⟩
theorem k_MO_readDigits : okV R_MO y_MO_readDigits b_MO_readDigits 6 none 4 := ⟨tw_799, tw_798, tp_32, tw_6, by decide +kernel, by decide +kernel, by decide +kernel⟩
theorem k_MO_writeDigits : okV R_MO y_MO_writeDigits b_MO_writeDigits 4 none 2 := ⟨tw_803, tw_802, tp_33, tw_6, by decide +kernel, by decide +kernel, by decide +kernel⟩
theorem k_MO_isMore : okV R_MO y_MO_isMore b_MO_isMore 4 (some .boolean) 1 := ⟨tw_810, tw_809, tp_34, tw_6, by decide +kernel, by decide +kernel, by decide +kernel⟩
theorem k_MO_add : okV R_MO y_MO_add b_MO_add 10 (some .int) 0 := ⟨tw_785, tw_784, tp_30, tw_6, by decide +kernel, by decide +kernel, by decide +kernel⟩
theorem k_MO_reset : okV R_MO y_MO_reset b_MO_reset 4 (some .int) 0 := ⟨tw_814, tw_813, tp_35, tw_6, by decide +kernel, by decide +kernel, by decide +kernel⟩
theorem k_MO_both : okV R_MO y_MO_both b_MO_both 3 (some .int) 0 := ⟨tw_822, tw_821, tp_37, tw_6, by decide +kernel, by decide +kernel, by decide +kernel⟩
theorem k_MO_move : okV R_MO y_MO_move b_MO_move 3 (some .int) 0 := ⟨tw_818, tw_817, tp_36, tw_6, by decide +kernel, by decide +kernel, by decide +kernel⟩
theorem k_MO_load : okV R_MO y_MO_load b_MO_load 3 (some .int) 0 := ⟨tw_826, tw_825, tp_38, tw_6, by decide +kernel, by decide +kernel, by decide +kernel⟩
theorem k_MO_part : okV R_MO y_MO_part b_MO_part 2 (some .int) 0 := ⟨tw_830, tw_829, tp_39, tw_6, by decide +kernel, by decide +kernel, by decide +kernel⟩
theorem k_MO_rank : okS y_MO_rank b_MO_rank 4 (some .int) 1 := ⟨tw_837, tw_836, tw_6, by decide +kernel, by decide +kernel, by decide +kernel⟩
theorem k_MO_compare : okV R_MO y_MO_compare b_MO_compare 5 (some .int) 0 := ⟨tw_834, tw_833, tp_40, tw_6, by decide +kernel, by decide +kernel, by decide +kernel⟩
theorem k_MO_marks : okV R_MO y_MO_marks b_MO_marks 1 (some .int) 0 := ⟨tw_841, tw_840, tp_41, tw_6, by decide +kernel, by decide +kernel, by decide +kernel⟩
theorem k_MO_go : okV R_MO y_MO_go b_MO_go 2 none 0 := ⟨tw_849, tw_848, tp_43, tw_6, by decide +kernel, by decide +kernel, by decide +kernel⟩
theorem k_MO_clear : okV R_MO y_MO_clear b_MO_clear 3 (some .int) 0 := ⟨tw_845, tw_844, tp_42, tw_6, by decide +kernel, by decide +kernel, by decide +kernel⟩
theorem k_MO_edit : okV R_MO y_MO_edit b_MO_edit 4 (some .int) 0 := ⟨tw_853, tw_852, tp_44, tw_6, by decide +kernel, by decide +kernel, by decide +kernel⟩
theorem k_MO_modifier : okV R_MO y_MO_modifier b_MO_modifier 1 (some .int) 0 := ⟨tw_861, tw_860, tp_46, tw_6, by decide +kernel, by decide +kernel, by decide +kernel⟩
theorem k_MO_branch : okV R_MO y_MO_branch b_MO_branch 3 (some .int) 0 := ⟨tw_857, tw_856, tp_45, tw_6, by decide +kernel, by decide +kernel, by decide +kernel⟩
theorem k_MO_branchMark : okV R_MO y_MO_branchMark b_MO_branchMark 5 (some .int) 0 := ⟨tw_865, tw_864, tp_47, tw_6, by decide +kernel, by decide +kernel, by decide +kernel⟩
theorem k_MO_readCard : okV R_MO y_MO_readCard b_MO_readCard 2 (some .int) 0 := ⟨tw_873, tw_872, tp_49, tw_6, by decide +kernel, by decide +kernel, by decide +kernel⟩
theorem k_MO_print : okV R_MO y_MO_print b_MO_print 2 (some .int) 0 := ⟨tw_877, tw_876, tp_50, tw_6, by decide +kernel, by decide +kernel, by decide +kernel⟩
theorem k_MO_punchCard : okV R_MO y_MO_punchCard b_MO_punchCard 2 (some .int) 0 := ⟨tw_881, tw_880, tp_51, tw_6, by decide +kernel, by decide +kernel, by decide +kernel⟩
theorem k_MO_device : okV R_MO y_MO_device b_MO_device 2 (some .int) 0 := ⟨tw_869, tw_868, tp_48, tw_6, by decide +kernel, by decide +kernel, by decide +kernel⟩
theorem k_MO_keepRegister : okV R_MO y_MO_keepRegister b_MO_keepRegister 3 (some .int) 0 := ⟨tw_885, tw_884, tp_52, tw_6, by decide +kernel, by decide +kernel, by decide +kernel⟩
theorem k_MO_address : okV R_MO y_MO_address b_MO_address 5 (some .int) 1 := ⟨tw_774, tw_773, tp_28, tw_6, by decide +kernel, by decide +kernel, by decide +kernel⟩
theorem k_MO_isArithmetic : okS y_MO_isArithmetic b_MO_isArithmetic 1 (some .boolean) 1 := ⟨tw_770, tw_769, tw_6, by decide +kernel, by decide +kernel, by decide +kernel⟩
theorem k_MO_may : okS y_MO_may b_MO_may 3 (some .boolean) 2 := ⟨tw_767, tw_766, tw_6, by decide +kernel, by decide +kernel, by decide +kernel⟩
theorem k_MO_fetch : okV R_MO y_MO_fetch b_MO_fetch 3 (some .int) 0 := ⟨tw_764, tw_763, tp_27, tw_6, by decide +kernel, by decide +kernel, by decide +kernel⟩
theorem k_MO_stopHere : okV R_MO y_MO_stopHere b_MO_stopHere 1 (some .int) 0 := ⟨tw_889, tw_888, tp_53, tw_6, by decide +kernel, by decide +kernel, by decide +kernel⟩
theorem k_MO_execute : okV R_MO y_MO_execute b_MO_execute 1 (some .int) 0 := ⟨tw_781, tw_780, tp_29, tw_6, by decide +kernel, by decide +kernel, by decide +kernel⟩
theorem k_MO_run : okV R_MO y_MO_run b_MO_run 3 (some .int) 1 := ⟨tw_760, tw_758, tw_759, tw_6, by decide +kernel, by decide +kernel, by decide +kernel⟩
theorem k_MO_at : okV R_MO y_MO_at b_MO_at 2 (some .int) 1 := ⟨tw_893, tw_891, tw_892, tw_6, by decide +kernel, by decide +kernel, by decide +kernel⟩
theorem k_MO_isMarked : okV R_MO y_MO_isMarked b_MO_isMarked 2 (some .boolean) 1 := ⟨tw_897, tw_895, tw_896, tw_6, by decide +kernel, by decide +kernel, by decide +kernel⟩
theorem k_MO_state : okV R_MO y_MO_state b_MO_state 2 (some .int) 1 := ⟨tw_901, tw_899, tw_900, tw_6, by decide +kernel, by decide +kernel, by decide +kernel⟩
theorem k_MO_printed : okV R_MO y_MO_printed b_MO_printed 3 (some .int) 2 := ⟨tw_905, tw_903, tw_904, tw_6, by decide +kernel, by decide +kernel, by decide +kernel⟩
theorem k_MO_punched : okV R_MO y_MO_punched b_MO_punched 3 (some .int) 2 := ⟨tw_909, tw_907, tw_908, tw_6, by decide +kernel, by decide +kernel, by decide +kernel⟩
theorem k_MO_number : okV R_MO y_MO_number b_MO_number 6 (some .long) 1 := ⟨tw_913, tw_911, tw_912, tw_6, by decide +kernel, by decide +kernel, by decide +kernel⟩
theorem k_MO_count : okV R_MO y_MO_count b_MO_count 4 (some .int) 1 := ⟨tw_918, tw_916, tw_917, tw_6, by decide +kernel, by decide +kernel, by decide +kernel⟩
theorem k_LA_cell : okS y_LA_cell b_LA_cell 2 (some .int) 2 := ⟨tw_198, tw_197, tw_0, by decide +kernel, by decide +kernel, by decide +kernel⟩
end
section
def R_JM : String := "java/lang/Math"
abbrev b_JM_floorMod : ByteArray := prog_13_method_50_code
def y_JM_floorMod : MethodName := ⟨R_JM, "floorMod", "(II)I"⟩
theorem k_JM_floorMod : okS y_JM_floorMod b_JM_floorMod 3 (some .int) 2 := ⟨tw_542, tw_541, tw_12, by decide +kernel, by decide +kernel, by decide +kernel⟩
theorem d_JM_floorMod_0 : decode b_JM_floorMod 0 = .ok (.iload_n 0, 1) := by decide +kernel
theorem d_JM_floorMod_1 : decode b_JM_floorMod 1 = .ok (.iload_n 1, 1) := by decide +kernel
theorem d_JM_floorMod_2 : decode b_JM_floorMod 2 = .ok (.irem, 1) := by decide +kernel
theorem d_JM_floorMod_3 : decode b_JM_floorMod 3 = .ok (.istore_n 2, 1) := by decide +kernel
theorem d_JM_floorMod_4 : decode b_JM_floorMod 4 = .ok (.iload_n 0, 1) := by decide +kernel
theorem d_JM_floorMod_5 : decode b_JM_floorMod 5 = .ok (.iload_n 1, 1) := by decide +kernel
theorem d_JM_floorMod_6 : decode b_JM_floorMod 6 = .ok (.ixor, 1) := by decide +kernel
theorem d_JM_floorMod_7 : decode b_JM_floorMod 7 = .ok (.ifCond .ge 11, 3) := by decide +kernel
theorem d_JM_floorMod_10 : decode b_JM_floorMod 10 = .ok (.iload_n 2, 1) := by decide +kernel
theorem d_JM_floorMod_11 : decode b_JM_floorMod 11 = .ok (.ifCond .eq 7, 3) := by decide +kernel
theorem d_JM_floorMod_14 : decode b_JM_floorMod 14 = .ok (.iload_n 2, 1) := by decide +kernel
theorem d_JM_floorMod_15 : decode b_JM_floorMod 15 = .ok (.iload_n 1, 1) := by decide +kernel
theorem d_JM_floorMod_16 : decode b_JM_floorMod 16 = .ok (.iadd, 1) := by decide +kernel
theorem d_JM_floorMod_17 : decode b_JM_floorMod 17 = .ok (.ireturn, 1) := by decide +kernel
theorem d_JM_floorMod_18 : decode b_JM_floorMod 18 = .ok (.iload_n 2, 1) := by decide +kernel
theorem d_JM_floorMod_19 : decode b_JM_floorMod 19 = .ok (.ireturn, 1) := by decide +kernel
def R_JI : String := "java/lang/Integer"
abbrev b_JI_compare : ByteArray := prog_12_method_40_code
def y_JI_compare : MethodName := ⟨R_JI, "compare", "(II)I"⟩
theorem k_JI_compare : okS y_JI_compare b_JI_compare 2 (some .int) 2 := ⟨tw_460, tw_459, tw_14, by decide +kernel, by decide +kernel, by decide +kernel⟩
theorem d_JI_compare_0 : decode b_JI_compare 0 = .ok (.iload_n 0, 1) := by decide +kernel
theorem d_JI_compare_1 : decode b_JI_compare 1 = .ok (.iload_n 1, 1) := by decide +kernel
theorem d_JI_compare_2 : decode b_JI_compare 2 = .ok (.if_icmp .ge 7, 3) := by decide +kernel
theorem d_JI_compare_5 : decode b_JI_compare 5 = .ok (.iconst (-1), 1) := by decide +kernel
theorem d_JI_compare_6 : decode b_JI_compare 6 = .ok (.goto 13, 3) := by decide +kernel
theorem d_JI_compare_9 : decode b_JI_compare 9 = .ok (.iload_n 0, 1) := by decide +kernel
theorem d_JI_compare_10 : decode b_JI_compare 10 = .ok (.iload_n 1, 1) := by decide +kernel
theorem d_JI_compare_11 : decode b_JI_compare 11 = .ok (.if_icmp .ne 7, 3) := by decide +kernel
theorem d_JI_compare_14 : decode b_JI_compare 14 = .ok (.iconst 0, 1) := by decide +kernel
theorem d_JI_compare_15 : decode b_JI_compare 15 = .ok (.goto 4, 3) := by decide +kernel
theorem d_JI_compare_18 : decode b_JI_compare 18 = .ok (.iconst 1, 1) := by decide +kernel
theorem d_JI_compare_19 : decode b_JI_compare 19 = .ok (.ireturn, 1) := by decide +kernel
end
section
theorem tw_442 : (Jvm.Cond.native ({ cls := "java/lang/System", name := "arraycopy", desc := "(Ljava/lang/Object;ILjava/lang/Object;II)V" } : Jvm.MethodName)) ∈ BIG := List.mem_filter.mpr ⟨List.mem_of_getElem? (i := 496) (by decide +kernel), by decide +kernel⟩
end
section
/-! bits of a cell: a character c and a word mark m -/
theorem bt_all : ∀ k : Fin 64, ∀ j : Fin 2, (iI ((k.val : Int) + 64 * (j.val : Int)) &&& iI 63 = iI (k.val : Int)) ∧ (iI ((k.val : Int) + 64 * (j.val : Int)) &&& iI 64 = iI (64 * (j.val : Int))) ∧ (iI ((k.val : Int) + 64 * (j.val : Int)) &&& iI 48 = iI ((k.val : Int) / 16 * 16)) ∧ (iI ((k.val : Int) + 64 * (j.val : Int)) &&& iI 15 = iI ((k.val : Int) % 16)) ∧ (iI (64 * (j.val : Int)) ||| iI (k.val : Int) = iI ((k.val : Int) + 64 * (j.val : Int))) ∧ (iI (k.val : Int) ||| iI (64 * (j.val : Int)) = iI ((k.val : Int) + 64 * (j.val : Int))) := by decide +kernel
theorem bt_one {c m : Int} (hc : 0 ≤ c ∧ c < 64) (hm : m = 0 ∨ m = 1) : (iI (c + 64 * m) &&& iI 63 = iI c) ∧ (iI (c + 64 * m) &&& iI 64 = iI (64 * m)) ∧ (iI (c + 64 * m) &&& iI 48 = iI (c / 16 * 16)) ∧ (iI (c + 64 * m) &&& iI 15 = iI (c % 16)) ∧ (iI (64 * m) ||| iI c = iI (c + 64 * m)) ∧ (iI c ||| iI (64 * m) = iI (c + 64 * m)) := by
  obtain ⟨k, rfl⟩ := Int.eq_ofNat_of_zero_le hc.1
  rcases hm with rfl | rfl
  · exact bt_all ⟨k, by omega⟩ 0
  · exact bt_all ⟨k, by omega⟩ 1
theorem bt_63 {c m : Int} (hc : 0 ≤ c ∧ c < 64) (hm : m = 0 ∨ m = 1) : iI (c + 64 * m) &&& iI 63 = iI c := (bt_one hc hm).1
theorem bt_64 {c m : Int} (hc : 0 ≤ c ∧ c < 64) (hm : m = 0 ∨ m = 1) : iI (c + 64 * m) &&& iI 64 = iI (64 * m) := (bt_one hc hm).2.1
theorem bt_48 {c m : Int} (hc : 0 ≤ c ∧ c < 64) (hm : m = 0 ∨ m = 1) : iI (c + 64 * m) &&& iI 48 = iI (c / 16 * 16) := (bt_one hc hm).2.2.1
theorem bt_15 {c m : Int} (hc : 0 ≤ c ∧ c < 64) (hm : m = 0 ∨ m = 1) : iI (c + 64 * m) &&& iI 15 = iI (c % 16) := (bt_one hc hm).2.2.2.1
theorem bt_mo {c m : Int} (hc : 0 ≤ c ∧ c < 64) (hm : m = 0 ∨ m = 1) : iI (64 * m) ||| iI c = iI (c + 64 * m) := (bt_one hc hm).2.2.2.2.1
theorem bt_om {c : Int} (hc : 0 ≤ c ∧ c < 64) : iI c ||| iI 64 = iI (c + 64 * 1) := (bt_one hc (Or.inr rfl)).2.2.2.2.2
theorem bt_c48 {c : Int} (hc : 0 ≤ c ∧ c < 64) : iI c &&& iI 48 = iI (c / 16 * 16) := by
  have h := bt_48 hc (Or.inl rfl)
  rwa [Int.mul_zero, Int.add_zero] at h
theorem bt_c15 {c : Int} (hc : 0 ≤ c ∧ c < 64) : iI c &&& iI 15 = iI (c % 16) := by
  have h := bt_15 hc (Or.inl rfl)
  rwa [Int.mul_zero, Int.add_zero] at h
theorem bt_dzA : ∀ d : Fin 16, ∀ z : Fin 4, iI (d.val : Int) ||| iI (16 * (z.val : Int)) = iI ((d.val : Int) + 16 * (z.val : Int)) := by decide +kernel
theorem bt_dz {d z : Int} (hd : 0 ≤ d ∧ d < 16) (hz : 0 ≤ z ∧ z < 4) : iI d ||| iI (16 * z) = iI (d + 16 * z) := by
  obtain ⟨k, rfl⟩ := Int.eq_ofNat_of_zero_le hd.1
  obtain ⟨j, rfl⟩ := Int.eq_ofNat_of_zero_le hz.1
  exact bt_dzA ⟨k, by omega⟩ ⟨j, by omega⟩
/-! a span to the left of b, k places, written anew -/
def spn (f : Int → Int) (b k : Int) (F : Int → Int) : Int → Int := fun j => if b - k < j ∧ j ≤ b then F (b - j) else f j
theorem spn_0 (f : Int → Int) (b : Int) (F : Int → Int) : spn f b 0 F = f := by
  funext j
  unfold spn
  rw [if_neg (by omega)]
theorem spn_step {f F : Int → Int} {b k v : Int} (hk : 0 ≤ k) (h : F k = v) : fu (spn f b k F) (b - k) v = spn f b (k + 1) F := by
  funext j
  unfold fu spn
  by_cases hj : j = b - k
  · rw [if_pos hj, if_pos (by omega), hj, show b - (b - k) = k by omega, h]
  · rw [if_neg hj]
    by_cases hq : b - k < j ∧ j ≤ b
    · rw [if_pos hq, if_pos (by omega)]
    · rw [if_neg hq, if_neg (by omega)]
theorem spn_out {f F : Int → Int} {b k j : Int} (h : j ≤ b - k ∨ b < j) : spn f b k F j = f j := by
  unfold spn
  rw [if_neg (by omega)]
theorem spn_in {f F : Int → Int} {b k j : Int} (h : 0 ≤ j ∧ j < k) : spn f b k F (b - j) = F j := by
  unfold spn
  rw [if_pos (by omega), show b - (b - j) = j by omega]
/-! lengths of fields; 0: none. n: the store's size, mk: its marks -/
def fld (n : Int) (mk : Int → Int) (u most : Int) : Nat → Int → Int
  | 0, _ => 0
  | k + 1, j => if 0 ≤ u - j + 1 ∧ u - j + 1 < n then (if j = most ∨ mk (u - j + 1) = 1 then j else fld n mk u most k (j + 1)) else 0
def cmn (n : Int) (mk : Int → Int) (a b : Int) : Nat → Int → Int
  | 0, _ => 0
  | k + 1, j => if (0 ≤ a - j + 1 ∧ a - j + 1 < n) ∧ (0 ≤ b - j + 1 ∧ b - j + 1 < n) then (if mk (a - j + 1) = 1 ∨ mk (b - j + 1) = 1 then j else cmn n mk a b k (j + 1)) else 0
def ins (n : Int) (mk : Int → Int) (i : Int) : Nat → Int → Int
  | 0, _ => 0
  | k + 1, j => if j ≤ 8 ∧ (0 ≤ i + j ∧ i + j < n) then (if mk (i + j) = 1 then j else ins n mk i k (j + 1)) else 0
/-- a character's value, a digit as it is written, a zone -/
def vl (c : Int) : Int := c % 16 % 10
def wrt (v : Int) : Int := if v = 0 then 10 else v
def zn (c : Int) : Int := c / 16 * 16
end
section
/-! CharMachine's static helpers -/
def sgz (k : Int) : Int := if k = 1 then 2 else 3
theorem sgz_in (k : Int) : 0 ≤ sgz k ∧ sgz k < 4 := by unfold sgz; split <;> decide
theorem wrt_in {v : Int} (h : 0 ≤ v ∧ v < 10) : 1 ≤ wrt v ∧ wrt v ≤ 10 := by unfold wrt; split <;> omega
theorem vl_in {c : Int} (h : 0 ≤ c ∧ c < 64) : 0 ≤ vl c ∧ vl c < 10 := by unfold vl; omega
theorem bt_zd {d z : Int} (hd : 0 ≤ d ∧ d < 16) (hz : 0 ≤ z ∧ z < 4) : iI d ||| iI (z * 16) = iI (d + 16 * z) := by
  rw [Int.mul_comm z 16]; exact bt_dz hd hz
section CX5
variable {p : Program} {l : Launch} {e : Env} {R : Room} {s : State} {m : MethodId} {args : Array Value} {below : List Frame} {meth : Method} {c : Code} {H : Heap} {locs : List Loc} {cells slots : Nat} {Q : State → Prop} {cc : ByteArray} {pc : Nat} {ls : Array Slot} {rest : List Value}
theorem cx_min (hx : p.tables.exec = Jvm.exec) (hb : c.code = cc) (hml : c.maxLocals = ls.size) {own : String} {index : Nat} (hown : s.vm.findClass own = some m.cls) (hT : ∀ w ∈ BIG, w.before args s = true) (hl : Cond.methodLink own index Lib.Math.min.name ∈ BIG) (hframes : 1 ≤ R.frames) (hlocals : (rest.map fun v => v.category).sum + 13 ≤ R.locals) (hc : cells ≤ R.cells) (hs : slots ≤ R.slots) {x y : Int} (hx1 : -2147483648 ≤ x ∧ x < 2147483648) (hy1 : -2147483648 ≤ y ∧ y < 2147483648) (hdg : decode cc pc = .ok (.invokestatic index, 3))
    (kk : ∀ t : Int, (t ≤ x ∧ t ≤ y ∧ (t = x ∨ t = y)) → W p l e R s m args below meth c H locs cells slots Q (F0 m (pc + 3) ls (.int (iI t) :: rest))) : W p l e R s m args below meth c H locs cells slots Q (F0 m pc ls (.int (iI y) :: .int (iI x) :: rest)) := by
  refine va_mmin hx hb hml hown (hT _ hl) (hT _ tw_425) (hT _ tw_12) (hT _ tw_426) hframes hlocals hc hs hdg ?_
  by_cases h : y < x
  · rw [if_pos ((iI_lt hy1 hx1).mpr h)]
    exact kk y ⟨by omega, by omega, Or.inr rfl⟩
  · rw [if_neg (fun h9 => h ((iI_lt hy1 hx1).mp h9))]
    exact kk x ⟨by omega, by omega, Or.inl rfl⟩
end CX5
set_option maxHeartbeats 4000000 in
set_option maxRecDepth 100000 in
theorem c_CM_isCharacter (l : Launch) (D : va_G) (T : Nat → ClassId) (sz : Nat) (z : Int) (hz : -2147483648 ≤ z ∧ z < 2147483648) : MI l y_CM_isCharacter (wY y_CM_isCharacter b_CM_isCharacter 1 (some .boolean)) (rmK 0) D vwCl (tyL T) nwL sz [.int (iI (z))] (([] : va_W)) (fun r (_ : Unit) => (r = iI 1 ∧ (0 ≤ z ∧ z < 64)) ∨ (r = iI 0 ∧ (¬ (0 ≤ z ∧ z < 64)))) (fun _ => ([] : va_W)) := by
  refine cx_inZ (by decide) rfl (Nat.le_of_ble_eq_true rfl) ?_
  intro p e s m below meth c ls A Q hx hb hml hT hown hret hP hK hD hN hS hA hl
  have hown : s.vm.findClass R_CM = some m.cls := hown
  have hl : lv_has ls 1 [(0, .int (iI (z)))] := hl
  refine lv_iload_n hx hb d_CM_isCharacter_0 rfl (lv_at hl 0 rfl) ?_
  refine cx_if_lt (tgt := 14) hx hb d_CM_isCharacter_1 rfl (by omega) (fun h1 => ?_) (fun h1 => ?_)
  · refine cx_iconst hx hb d_CM_isCharacter_14 ?_
    exact hret () (Or.inl rfl) (Or.inr ⟨rfl, by omega⟩) hP hD hS d_CM_isCharacter_15
  · refine lv_iload_n hx hb d_CM_isCharacter_4 rfl (lv_at hl 0 rfl) ?_
    refine cx_bipush hx hb d_CM_isCharacter_5 rfl ?_
    refine cx_icmp_ge (tgt := 14) hx hb d_CM_isCharacter_7 rfl (by omega) (by omega) (fun h7 => ?_) (fun h7 => ?_)
    · refine cx_iconst hx hb d_CM_isCharacter_14 ?_
      exact hret () (Or.inl rfl) (Or.inr ⟨rfl, by omega⟩) hP hD hS d_CM_isCharacter_15
    · refine cx_iconst hx hb d_CM_isCharacter_10 ?_
      refine lv_goto (tgt := 15) hx hb d_CM_isCharacter_11 rfl ?_
      exact hret () (Or.inr rfl) (Or.inl ⟨rfl, by omega⟩) hP hD hS d_CM_isCharacter_15

set_option maxHeartbeats 4000000 in
set_option maxRecDepth 100000 in
theorem c_CM_written (l : Launch) (D : va_G) (T : Nat → ClassId) (sz : Nat) (z : Int) (hz : -2147483648 ≤ z ∧ z < 2147483648) : MI l y_CM_written (wY y_CM_written b_CM_written 1 (some .int)) (rmK 0) D vwCl (tyL T) nwL sz [.int (iI (z))] (([] : va_W)) (fun r (_ : Unit) => r = iI (wrt z)) (fun _ => ([] : va_W)) := by
  refine cx_inI (by decide) rfl (Nat.le_of_ble_eq_true rfl) ?_
  intro p e s m below meth c ls A Q hx hb hml hT hown hret hP hK hD hN hS hA hl
  have hown : s.vm.findClass R_CM = some m.cls := hown
  have hl : lv_has ls 1 [(0, .int (iI (z)))] := hl
  refine lv_iload_n hx hb d_CM_written_0 rfl (lv_at hl 0 rfl) ?_
  refine cx_if_ne (tgt := 9) hx hb d_CM_written_1 rfl (by omega) (fun h1 => ?_) (fun h1 => ?_)
  · refine lv_iload_n hx hb d_CM_written_9 rfl (lv_at hl 0 rfl) ?_
    exact hret () (by unfold wrt; rw [if_neg (by omega)]) hP hD hS d_CM_written_10
  · refine cx_bipush hx hb d_CM_written_4 rfl ?_
    refine lv_goto (tgt := 10) hx hb d_CM_written_6 rfl ?_
    exact hret () (by unfold wrt; rw [if_pos (by omega)]) hP hD hS d_CM_written_10

set_option maxHeartbeats 4000000 in
set_option maxRecDepth 100000 in
theorem c_CM_signZone (l : Launch) (D : va_G) (T : Nat → ClassId) (sz : Nat) (k : Int) (hk : k = 0 ∨ k = 1) : MI l y_CM_signZone (wY y_CM_signZone b_CM_signZone 1 (some .int)) (rmK 0) D vwCl (tyL T) nwL sz [.int (iI (k))] (([] : va_W)) (fun r (_ : Unit) => r = iI (16 * sgz k)) (fun _ => ([] : va_W)) := by
  refine cx_inI (by decide) rfl (Nat.le_of_ble_eq_true rfl) ?_
  intro p e s m below meth c ls A Q hx hb hml hT hown hret hP hK hD hN hS hA hl
  have hown : s.vm.findClass R_CM = some m.cls := hown
  have hl : lv_has ls 1 [(0, .int (iI (k)))] := hl
  refine lv_iload_n hx hb d_CM_signZone_0 rfl (lv_at hl 0 rfl) ?_
  refine cx_if_eq (tgt := 9) hx hb d_CM_signZone_1 rfl (by omega) (fun h1 => ?_) (fun h1 => ?_)
  · refine cx_bipush hx hb d_CM_signZone_9 rfl ?_
    exact hret () (by unfold sgz; rw [if_neg (by omega)]; rfl) hP hD hS d_CM_signZone_11
  · refine cx_bipush hx hb d_CM_signZone_4 rfl ?_
    refine lv_goto (tgt := 11) hx hb d_CM_signZone_6 rfl ?_
    exact hret () (by unfold sgz; rw [if_pos (by omega)]; rfl) hP hD hS d_CM_signZone_11
end
section
/-! the Store: its cells, and what its methods do -/
abbrev ceF (ch mk : Int → Int) : Int → Int32 := fun z => iI (ch z + 64 * mk z)
abbrev sW (T : Nat → ClassId) (q : Nat → Nat) (n : Nat) (ch mk : Int → Int) : va_W := [(q 1, .inr (3, [.ref (q 2)])), (q 2, .inl (T 0, n, .inl (fun j : Nat => ceF ch mk (j : Int))))]
abbrev okC (ch mk : Int → Int) : Prop := (∀ j, 0 ≤ ch j ∧ ch j < 64) ∧ ∀ j, mk j = 0 ∨ mk j = 1
theorem ceF_put {ch mk : Int → Int} {z v k : Int} (j : Int) : fu (ceF ch mk) z (iI (v + 64 * k)) j = ceF (fu ch z v) (fu mk z k) j := by
  unfold fu ceF
  by_cases h : j = z
  · simp [h]
  · simp [h]
theorem ceF_wr {ch mk : Int → Int} {z v : Int} (j : Int) : fu (ceF ch mk) z (iI (v + 64 * mk z)) j = ceF (fu ch z v) mk j := by
  unfold fu ceF
  by_cases h : j = z
  · simp [h]
  · simp [h]
theorem fu_id (f : Int → Int) (z : Int) : fu f z (f z) = f := by
  funext j
  unfold fu
  by_cases h : j = z
  · simp [h]
  · simp [h]
theorem zn_in {c : Int} (h : 0 ≤ c ∧ c < 64) : 0 ≤ zn c ∧ zn c ≤ 48 := by unfold zn; omega
def flr (x : Int) : Int := if x = 0 then -1 else x
theorem flr_pos {x : Int} (h : ¬ x = 0) : flr x = x := if_neg h
theorem fld_no {n : Int} {mk : Int → Int} {u most : Int} {k : Nat} (h : ¬ (0 ≤ u ∧ u < n)) : fld n mk u most (k + 1) 1 = 0 := by
  rw [fld, if_neg (by omega)]
theorem okC_fu {ch mk : Int → Int} {z v : Int} (h : okC ch mk) (hv : 0 ≤ v ∧ v < 64) : okC (fu ch z v) mk := ⟨fun j => by
  unfold fu
  split
  · exact hv
  · exact h.1 j, h.2⟩
theorem okC_mk {ch mk : Int → Int} {z v : Int} (h : okC ch mk) (hv : v = 0 ∨ v = 1) : okC ch (fu mk z v) := ⟨h.1, fun j => by
  unfold fu
  split
  · exact hv
  · exact h.2 j⟩
theorem cmn_no {n : Int} {mk : Int → Int} {a b : Int} {k : Nat} (h : ¬ ((0 ≤ a ∧ a < n) ∧ (0 ≤ b ∧ b < n))) : cmn n mk a b (k + 1) 1 = 0 := by
  rw [cmn, if_neg (by omega)]
/-- an address by three characters from z on -/
def adr (ch : Int → Int) (z : Int) : Int := (ch z / 16 + ch (z + 2) / 16 * 4) * 1000 + vl (ch z) * 100 + vl (ch (z + 1)) * 10 + vl (ch (z + 2))
theorem adr_eq {ch : Int → Int} {z : Int} : iI ((zn (ch z) / 16 + zn (ch (z + 2)) / 16 * 4) * 1000 + vl (ch z) * 100 + vl (ch (z + 1)) * 10 + vl (ch (z + 2))) = iI (adr ch z) := by
  unfold adr zn
  rw [Int.mul_ediv_cancel _ (by decide), Int.mul_ediv_cancel _ (by decide)]
/-- an address x as three characters, the last one at z -/
def wad (ch : Int → Int) (z x : Int) : Int → Int := fu (fu (fu ch (z - 2) (wrt (x / 100 % 10) + 16 * (x / 1000 % 4))) (z - 1) (wrt (x / 10 % 10))) z (wrt (x % 10) + 16 * (x / 1000 / 4))
/-- so many marks up to there -/
def cnt (mk : Int → Int) : Nat → Int
  | 0 => 0
  | k + 1 => cnt mk k + mk (k : Int)
theorem cnt_step {mk : Int → Int} {j : Int} (h : 0 ≤ j) : cnt mk (j + 1).toNat = cnt mk j.toNat + mk j := by
  rw [show (j + 1).toNat = j.toNat + 1 by omega, cnt, Int.toNat_of_nonneg h]
/-- a span moved at once -/
def cpy (f : Int → Int) (sp dp k : Int) : Int → Int := fun j => if dp ≤ j ∧ j < dp + k then f (sp + (j - dp)) else f j
theorem ceF_cpy {ch mk : Int → Int} {sp dp k : Int} (h1 : 0 ≤ sp) (h2 : 0 ≤ dp) (h3 : 0 ≤ k) : va_cpy (fun j : Nat => ceF ch mk (j : Int)) (fun j : Nat => ceF ch mk (j : Int)) sp.toNat dp.toNat k.toNat = fun j : Nat => ceF (cpy ch sp dp k) (cpy mk sp dp k) (j : Int) := by
  funext j
  by_cases h : dp ≤ (j : Int) ∧ (j : Int) < dp + k
  · rw [pk_cpy_in (by omega) (by omega)]
    show ceF ch mk ((sp.toNat + (j - dp.toNat) : Nat) : Int) = _
    rw [show ((sp.toNat + (j - dp.toNat) : Nat) : Int) = sp + ((j : Int) - dp) by omega]
    simp [ceF, cpy, h]
  · rw [pk_cpy_out (by omega)]
    simp [ceF, cpy, h]
section CX6
variable {p : Program} {l : Launch} {e : Env} {R : Room} {s : State} {m : MethodId} {args : Array Value} {below : List Frame} {meth : Method} {c : Code} {H : Heap} {locs : List Loc} {cells slots : Nat} {Q : State → Prop} {cc : ByteArray} {pc : Nat} {ls : Array Slot} {rest : List Value} {D : va_G} {A : Nat → Prop} {a : Nat} {tys : List (ClassId × FieldType)} {ws : va_W} {H0 : Heap}
theorem cx_copy (hx : p.tables.exec = Jvm.exec) (hb : c.code = cc) (hml : c.maxLocals = ls.size) {own : String} {index : Nat} (hown : s.vm.findClass own = some m.cls) (hT : ∀ w ∈ BIG, w.before args s = true) (hl : Cond.methodLink own index arraycopyName ∈ BIG)
    (hK : va_K D vwCl tys s) (hP : va_P D vwCl ws H) (hD : va_D A ws) (hS : va_S A H0 H locs) (q0 q1 t0 t1 : Nat) {a0 : Nat} {c0 c1 : ClassId} {n0 n1 : Nat} {f g : Nat → Int32} (ha0 : ws[q0]? = some (a0, .inl (c0, n0, .inl f))) (ha1 : ws[q1]? = some (a, .inl (c1, n1, .inl g))) (ht0 : tys[t0]? = some (c0, .int)) (ht1 : tys[t1]? = some (c1, .int))
    {sp dp k : Int} (h1 : 0 ≤ sp) (h2 : 0 ≤ dp) (h3 : 0 ≤ k ∧ k < 2147483648) (h4 : sp + k ≤ n0 ∧ sp < 2147483648) (h5 : dp + k ≤ n1 ∧ dp < 2147483648) {g2 : Int → Int32} (hg : va_cpy f g sp.toNat dp.toNat k.toNat = fun j : Nat => g2 (j : Int))
    (hframes : 1 ≤ R.frames) (hlocals : (rest.map fun v => v.category).sum + (nativeFrameWords "java/lang/System" "arraycopy" 5 + 11) ≤ R.locals) (hdg : decode cc pc = .ok (.invokestatic index, 3))
    (kk : ∀ (H1 : Heap) (locs1 : List Loc), va_P D vwCl (ws.set q1 (a, .inl (c1, n1, .inl (fun j : Nat => g2 (j : Int))))) H1 → va_D A (ws.set q1 (a, .inl (c1, n1, .inl (fun j : Nat => g2 (j : Int))))) → va_S A H0 H1 locs1 → W p l e R s m args below meth c H1 locs1 cells slots Q (F0 m (pc + 3) ls rest)) : W p l e R s m args below meth c H locs cells slots Q (F0 m pc ls (.int (iI k) :: .int (iI dp) :: .ref a :: .int (iI sp) :: .ref a0 :: rest)) := by
  refine va_copyi hx hb hml hown (hT _ hl) (hT _ tw_442) (hT _ tw_441) (hT _ tw_13) hK hP hD hS q0 q1 t0 t1 ha0 ha1 ht0 ht1 rfl (iI_nneg (by omega)) (iI_nneg (by omega)) (iI_nneg (by omega)) (by rw [iI_clamp (by omega), iI_clamp (by omega)]; omega) (by rw [iI_clamp (by omega), iI_clamp (by omega)]; omega) (fun _ _ => rfl) hframes hlocals hdg (fun H1 locs1 => ?_)
  rw [iI_clamp (by omega), iI_clamp (by omega), iI_clamp (by omega), hg]
  exact kk H1 locs1
end CX6
set_option maxHeartbeats 4000000 in
set_option maxRecDepth 100000 in
theorem c_ST_size (l : Launch) (D : va_G) (T : Nat → ClassId) (sz : Nat) (q : Nat → Nat) (n : Nat) (ch mk : Int → Int) (hn : 400 ≤ n ∧ n ≤ 2000) : MI l y_ST_size (wY y_ST_size b_ST_size 1 (some .int)) (rmK 0) D vwCl (tyL T) nwL sz [.ref (q 1)] (sW T q n ch mk) (fun r (_ : Unit) => r = iI n) (fun _ => sW T q n ch mk) := by
  refine cx_inI (by decide) rfl (Nat.le_of_ble_eq_true rfl) ?_
  intro p e s m below meth cd ls A Q hx hb hml hT hown hret hP hK hD hN hS hA hl
  have hown : s.vm.findClass R_ST = some m.cls := hown
  have hl : lv_has ls 1 [(0, .ref (q 1))] := hl
  refine lv_aload_n hx hb d_ST_size_0 rfl (lv_at hl 0 rfl) ?_
  refine va_get (D := D) (ci := 3) (v := .ref (q 2)) (C := R_ST) (T := T_ST) (N := 1) hx hb hT lays_ST hown hK hP 0 rfl rfl 0 (by decide) (hT _ tw_31) (fun _ h9 => h9) rfl d_ST_size_1 ?_
  refine va_alen (v := iI ((n : Nat) : Int)) hx hb hK hP 1 0 rfl rfl (iI_nI n).symm d_ST_size_4 ?_
  exact hret () rfl hP hD hS d_ST_size_5

set_option maxHeartbeats 4000000 in
set_option maxRecDepth 100000 in
theorem c_ST_has (l : Launch) (D : va_G) (T : Nat → ClassId) (sz : Nat) (q : Nat → Nat) (n : Nat) (ch mk : Int → Int) (hn : 400 ≤ n ∧ n ≤ 2000) (z : Int) (h_z : -2147483648 ≤ z ∧ z < 2147483648) : MI l y_ST_has (wY y_ST_has b_ST_has 2 (some .boolean)) (rmK 0) D vwCl (tyL T) nwL sz [.ref (q 1), .int (iI (z))] (sW T q n ch mk) (fun r (_ : Unit) => (r = iI 1 ∧ (0 ≤ z ∧ z < n)) ∨ (r = iI 0 ∧ (¬ (0 ≤ z ∧ z < n)))) (fun _ => sW T q n ch mk) := by
  refine cx_inZ (by decide) rfl (Nat.le_of_ble_eq_true rfl) ?_
  intro p e s m below meth cd ls A Q hx hb hml hT hown hret hP hK hD hN hS hA hl
  have hown : s.vm.findClass R_ST = some m.cls := hown
  have hl : lv_has ls 2 [(0, .ref (q 1)), (1, .int (iI (z)))] := hl
  refine lv_iload_n hx hb d_ST_has_0 rfl (lv_at hl 1 rfl) ?_
  refine cx_if_lt (tgt := 17) hx hb d_ST_has_1 rfl (by omega) (fun h1 => ?_) (fun h1 => ?_)
  · refine cx_iconst hx hb d_ST_has_17 ?_
    exact hret () (Or.inl rfl) (Or.inr ⟨rfl, by omega⟩) hP hD hS d_ST_has_18
  · refine lv_iload_n hx hb d_ST_has_4 rfl (lv_at hl 1 rfl) ?_
    refine lv_aload_n hx hb d_ST_has_5 rfl (lv_at hl 0 rfl) ?_
    refine va_get (D := D) (ci := 3) (v := .ref (q 2)) (C := R_ST) (T := T_ST) (N := 1) hx hb hT lays_ST hown hK hP 0 rfl rfl 0 (by decide) (hT _ tw_31) (fun _ h9 => h9) rfl d_ST_has_6 ?_
    refine va_alen (v := iI ((n : Nat) : Int)) hx hb hK hP 1 0 rfl rfl (iI_nI n).symm d_ST_has_9 ?_
    refine cx_icmp_ge (tgt := 17) hx hb d_ST_has_10 rfl (by omega) (by omega) (fun h10 => ?_) (fun h10 => ?_)
    · refine cx_iconst hx hb d_ST_has_17 ?_
      exact hret () (Or.inl rfl) (Or.inr ⟨rfl, by omega⟩) hP hD hS d_ST_has_18
    · refine cx_iconst hx hb d_ST_has_13 ?_
      refine lv_goto (tgt := 18) hx hb d_ST_has_14 rfl ?_
      exact hret () (Or.inr rfl) (Or.inl ⟨rfl, by omega⟩) hP hD hS d_ST_has_18

set_option maxHeartbeats 4000000 in
set_option maxRecDepth 100000 in
theorem c_ST_hasSpan (l : Launch) (D : va_G) (T : Nat → ClassId) (sz : Nat) (q : Nat → Nat) (n : Nat) (ch mk : Int → Int) (hn : 400 ≤ n ∧ n ≤ 2000) (z k : Int) (h_z : -2147483648 ≤ z ∧ z < 2147483648) (hk : -2147483647 ≤ k ∧ k < 2147483648) : MI l y_ST_hasSpan (wY y_ST_hasSpan b_ST_hasSpan 3 (some .boolean)) (rmK 1) D vwCl (tyL T) nwL sz [.ref (q 1), .int (iI (z)), .int (iI (k))] (sW T q n ch mk) (fun r (_ : Unit) => (r = iI 1 ∧ ((0 ≤ z ∧ z < n) ∧ k - 1 ≤ z)) ∨ (r = iI 0 ∧ (¬ ((0 ≤ z ∧ z < n) ∧ k - 1 ≤ z)))) (fun _ => sW T q n ch mk) := by
  refine cx_inZ (by decide) rfl (Nat.le_of_ble_eq_true rfl) ?_
  intro p e s m below meth cd ls A Q hx hb hml hT hown hret hP hK hD hN hS hA hl
  have hown : s.vm.findClass R_ST = some m.cls := hown
  have hl : lv_has ls 3 [(0, .ref (q 1)), (1, .int (iI (z))), (2, .int (iI (k)))] := hl
  refine lv_aload_n hx hb d_ST_hasSpan_0 rfl (lv_at hl 0 rfl) ?_
  refine lv_iload_n hx hb d_ST_hasSpan_1 rfl (lv_at hl 1 rfl) ?_
  refine cx_cI (ws2 := fun _ => sW T q n ch mk) (cx_rV (q0 := 0) (ci := 3) (rest := []) (As := [.int (iI (z))]) hx hb hml hown hT hK hN hP hD hl.1 tw_368 k_ST_has (c_ST_has l D T s.heap.size q n ch mk hn z (by omega)) ⟨by decide, by decide⟩ ⟨rfl, rfl⟩ [0, 1] (by decide) rfl rfl rfl rfl rfl (Nat.le_of_ble_eq_true rfl) ⟨Nat.zero_le _, Nat.zero_le _⟩ d_ST_hasSpan_2) hP hD hS hA [0, 1] [] [0, 1] rfl (wr := []) rfl (by decide) (by decide) (fun _ => rfl) (by decide) (fun r u_ H locs hq2 hP hD hS => ?_)
  rcases hq2 with ⟨rfl, h2⟩ | ⟨rfl, h2⟩
  · refine cx_if_eq (tgt := 19) hx hb d_ST_hasSpan_5 rfl (by omega) (fun h0 => absurd h0 (by decide)) (fun _ => ?_)
    refine lv_iload_n hx hb d_ST_hasSpan_8 rfl (lv_at hl 1 rfl) ?_
    refine lv_iload_n hx hb d_ST_hasSpan_9 rfl (lv_at hl 2 rfl) ?_
    refine cx_iconst hx hb d_ST_hasSpan_10 ?_
    refine cx_isub hx hb d_ST_hasSpan_11 ?_
    refine cx_icmp_lt (tgt := 19) hx hb d_ST_hasSpan_12 rfl (by omega) (by omega) (fun h12 => ?_) (fun h12 => ?_)
    · refine cx_iconst hx hb d_ST_hasSpan_19 ?_
      exact hret () (Or.inl rfl) (Or.inr ⟨rfl, by omega⟩) hP hD hS d_ST_hasSpan_20
    · refine cx_iconst hx hb d_ST_hasSpan_15 ?_
      refine lv_goto (tgt := 20) hx hb d_ST_hasSpan_16 rfl ?_
      exact hret () (Or.inr rfl) (Or.inl ⟨rfl, by omega⟩) hP hD hS d_ST_hasSpan_20
  · refine cx_if_eq (tgt := 19) hx hb d_ST_hasSpan_5 rfl (by omega) (fun _ => ?_) (fun h0 => absurd h0 (by decide))
    refine cx_iconst hx hb d_ST_hasSpan_19 ?_
    exact hret () (Or.inl rfl) (Or.inr ⟨rfl, by omega⟩) hP hD hS d_ST_hasSpan_20

set_option maxHeartbeats 4000000 in
set_option maxRecDepth 100000 in
theorem c_ST_character (l : Launch) (D : va_G) (T : Nat → ClassId) (sz : Nat) (q : Nat → Nat) (n : Nat) (ch mk : Int → Int) (hn : 400 ≤ n ∧ n ≤ 2000) (hC : okC ch mk) (z : Int) (h_z : 0 ≤ z ∧ z < n) : MI l y_ST_character (wY y_ST_character b_ST_character 2 (some .int)) (rmK 0) D vwCl (tyL T) nwL sz [.ref (q 1), .int (iI (z))] (sW T q n ch mk) (fun r (_ : Unit) => r = iI (ch z)) (fun _ => sW T q n ch mk) := by
  refine cx_inI (by decide) rfl (Nat.le_of_ble_eq_true rfl) ?_
  intro p e s m below meth cd ls A Q hx hb hml hT hown hret hP hK hD hN hS hA hl
  have hown : s.vm.findClass R_ST = some m.cls := hown
  have hl : lv_has ls 2 [(0, .ref (q 1)), (1, .int (iI (z)))] := hl
  refine lv_aload_n hx hb d_ST_character_0 rfl (lv_at hl 0 rfl) ?_
  refine va_get (D := D) (ci := 3) (v := .ref (q 2)) (C := R_ST) (T := T_ST) (N := 1) hx hb hT lays_ST hown hK hP 0 rfl rfl 0 (by decide) (hT _ tw_31) (fun _ h9 => h9) rfl d_ST_character_1 ?_
  refine lv_iload_n hx hb d_ST_character_4 rfl (lv_at hl 1 rfl) ?_
  refine cx_iald (g := ceF ch mk) hx hb hK hP 1 0 rfl rfl (by omega) (by omega) d_ST_character_5 ?_
  refine cx_bipush hx hb d_ST_character_6 rfl ?_
  refine lv_iand hx hb d_ST_character_8 ?_
  refine cx_eq (bt_63 (hC.1 z) (hC.2 z)) ?_
  exact hret () rfl hP hD hS d_ST_character_9

set_option maxHeartbeats 4000000 in
set_option maxRecDepth 100000 in
theorem c_ST_hasMark (l : Launch) (D : va_G) (T : Nat → ClassId) (sz : Nat) (q : Nat → Nat) (n : Nat) (ch mk : Int → Int) (hn : 400 ≤ n ∧ n ≤ 2000) (hC : okC ch mk) (z : Int) (h_z : 0 ≤ z ∧ z < n) : MI l y_ST_hasMark (wY y_ST_hasMark b_ST_hasMark 2 (some .boolean)) (rmK 0) D vwCl (tyL T) nwL sz [.ref (q 1), .int (iI (z))] (sW T q n ch mk) (fun r (_ : Unit) => (r = iI 1 ∧ (mk z = 1)) ∨ (r = iI 0 ∧ (mk z = 0))) (fun _ => sW T q n ch mk) := by
  refine cx_inZ (by decide) rfl (Nat.le_of_ble_eq_true rfl) ?_
  intro p e s m below meth cd ls A Q hx hb hml hT hown hret hP hK hD hN hS hA hl
  have hown : s.vm.findClass R_ST = some m.cls := hown
  have hl : lv_has ls 2 [(0, .ref (q 1)), (1, .int (iI (z)))] := hl
  have hm := hC.2 z
  refine lv_aload_n hx hb d_ST_hasMark_0 rfl (lv_at hl 0 rfl) ?_
  refine va_get (D := D) (ci := 3) (v := .ref (q 2)) (C := R_ST) (T := T_ST) (N := 1) hx hb hT lays_ST hown hK hP 0 rfl rfl 0 (by decide) (hT _ tw_31) (fun _ h9 => h9) rfl d_ST_hasMark_1 ?_
  refine lv_iload_n hx hb d_ST_hasMark_4 rfl (lv_at hl 1 rfl) ?_
  refine cx_iald (g := ceF ch mk) hx hb hK hP 1 0 rfl rfl (by omega) (by omega) d_ST_hasMark_5 ?_
  refine cx_bipush hx hb d_ST_hasMark_6 rfl ?_
  refine lv_iand hx hb d_ST_hasMark_8 ?_
  refine cx_eq (bt_64 (hC.1 z) (hC.2 z)) ?_
  refine cx_if_eq (tgt := 16) hx hb d_ST_hasMark_9 rfl (by omega) (fun h9 => ?_) (fun h9 => ?_)
  · refine cx_iconst hx hb d_ST_hasMark_16 ?_
    exact hret () (Or.inl rfl) (Or.inr ⟨rfl, by omega⟩) hP hD hS d_ST_hasMark_17
  · refine cx_iconst hx hb d_ST_hasMark_12 ?_
    refine lv_goto (tgt := 17) hx hb d_ST_hasMark_13 rfl ?_
    exact hret () (Or.inr rfl) (Or.inl ⟨rfl, by omega⟩) hP hD hS d_ST_hasMark_17

set_option maxHeartbeats 4000000 in
set_option maxRecDepth 100000 in
theorem c_ST_zone (l : Launch) (D : va_G) (T : Nat → ClassId) (sz : Nat) (q : Nat → Nat) (n : Nat) (ch mk : Int → Int) (hn : 400 ≤ n ∧ n ≤ 2000) (hC : okC ch mk) (z : Int) (h_z : 0 ≤ z ∧ z < n) : MI l y_ST_zone (wY y_ST_zone b_ST_zone 2 (some .int)) (rmK 0) D vwCl (tyL T) nwL sz [.ref (q 1), .int (iI (z))] (sW T q n ch mk) (fun r (_ : Unit) => r = iI (zn (ch z))) (fun _ => sW T q n ch mk) := by
  refine cx_inI (by decide) rfl (Nat.le_of_ble_eq_true rfl) ?_
  intro p e s m below meth cd ls A Q hx hb hml hT hown hret hP hK hD hN hS hA hl
  have hown : s.vm.findClass R_ST = some m.cls := hown
  have hl : lv_has ls 2 [(0, .ref (q 1)), (1, .int (iI (z)))] := hl
  refine lv_aload_n hx hb d_ST_zone_0 rfl (lv_at hl 0 rfl) ?_
  refine va_get (D := D) (ci := 3) (v := .ref (q 2)) (C := R_ST) (T := T_ST) (N := 1) hx hb hT lays_ST hown hK hP 0 rfl rfl 0 (by decide) (hT _ tw_31) (fun _ h9 => h9) rfl d_ST_zone_1 ?_
  refine lv_iload_n hx hb d_ST_zone_4 rfl (lv_at hl 1 rfl) ?_
  refine cx_iald (g := ceF ch mk) hx hb hK hP 1 0 rfl rfl (by omega) (by omega) d_ST_zone_5 ?_
  refine cx_bipush hx hb d_ST_zone_6 rfl ?_
  refine lv_iand hx hb d_ST_zone_8 ?_
  refine cx_eq (bt_48 (hC.1 z) (hC.2 z)) ?_
  exact hret () rfl hP hD hS d_ST_zone_9

set_option maxHeartbeats 4000000 in
set_option maxRecDepth 100000 in
theorem c_ST_digit (l : Launch) (D : va_G) (T : Nat → ClassId) (sz : Nat) (q : Nat → Nat) (n : Nat) (ch mk : Int → Int) (hn : 400 ≤ n ∧ n ≤ 2000) (hC : okC ch mk) (z : Int) (h_z : 0 ≤ z ∧ z < n) : MI l y_ST_digit (wY y_ST_digit b_ST_digit 2 (some .int)) (rmK 0) D vwCl (tyL T) nwL sz [.ref (q 1), .int (iI (z))] (sW T q n ch mk) (fun r (_ : Unit) => r = iI (vl (ch z))) (fun _ => sW T q n ch mk) := by
  refine cx_inI (by decide) rfl (Nat.le_of_ble_eq_true rfl) ?_
  intro p e s m below meth cd ls A Q hx hb hml hT hown hret hP hK hD hN hS hA hl
  have hown : s.vm.findClass R_ST = some m.cls := hown
  have hl : lv_has ls 2 [(0, .ref (q 1)), (1, .int (iI (z)))] := hl
  refine lv_aload_n hx hb d_ST_digit_0 rfl (lv_at hl 0 rfl) ?_
  refine va_get (D := D) (ci := 3) (v := .ref (q 2)) (C := R_ST) (T := T_ST) (N := 1) hx hb hT lays_ST hown hK hP 0 rfl rfl 0 (by decide) (hT _ tw_31) (fun _ h9 => h9) rfl d_ST_digit_1 ?_
  refine lv_iload_n hx hb d_ST_digit_4 rfl (lv_at hl 1 rfl) ?_
  refine cx_iald (g := ceF ch mk) hx hb hK hP 1 0 rfl rfl (by omega) (by omega) d_ST_digit_5 ?_
  refine cx_bipush hx hb d_ST_digit_6 rfl ?_
  refine lv_iand hx hb d_ST_digit_8 ?_
  refine cx_eq (bt_15 (hC.1 z) (hC.2 z)) ?_
  refine cx_bipush hx hb d_ST_digit_9 rfl ?_
  refine cx_irem hx hb d_ST_digit_11 (by omega) (by omega) ?_
  exact hret () rfl hP hD hS d_ST_digit_12

set_option maxHeartbeats 4000000 in
set_option maxRecDepth 100000 in
theorem c_ST_isMinus (l : Launch) (D : va_G) (T : Nat → ClassId) (sz : Nat) (q : Nat → Nat) (n : Nat) (ch mk : Int → Int) (hn : 400 ≤ n ∧ n ≤ 2000) (hC : okC ch mk) (z : Int) (h_z : 0 ≤ z ∧ z < n) : MI l y_ST_isMinus (wY y_ST_isMinus b_ST_isMinus 2 (some .boolean)) (rmK 1) D vwCl (tyL T) nwL sz [.ref (q 1), .int (iI (z))] (sW T q n ch mk) (fun r (_ : Unit) => (r = iI 1 ∧ (zn (ch z) = 32)) ∨ (r = iI 0 ∧ (¬ zn (ch z) = 32))) (fun _ => sW T q n ch mk) := by
  refine cx_inZ (by decide) rfl (Nat.le_of_ble_eq_true rfl) ?_
  intro p e s m below meth cd ls A Q hx hb hml hT hown hret hP hK hD hN hS hA hl
  have hown : s.vm.findClass R_ST = some m.cls := hown
  have hl : lv_has ls 2 [(0, .ref (q 1)), (1, .int (iI (z)))] := hl
  have hc := hC.1 z
  have hz := zn_in hc
  refine lv_aload_n hx hb d_ST_isMinus_0 rfl (lv_at hl 0 rfl) ?_
  refine lv_iload_n hx hb d_ST_isMinus_1 rfl (lv_at hl 1 rfl) ?_
  refine cx_cI (ws2 := fun _ => sW T q n ch mk) (cx_rV (q0 := 0) (ci := 3) (rest := []) (As := [.int (iI (z))]) hx hb hml hown hT hK hN hP hD hl.1 tw_341 k_ST_zone (c_ST_zone l D T s.heap.size q n ch mk hn hC z (by omega)) ⟨by decide, by decide⟩ ⟨rfl, rfl⟩ [0, 1] (by decide) rfl rfl rfl rfl rfl (Nat.le_of_ble_eq_true rfl) ⟨Nat.zero_le _, Nat.zero_le _⟩ d_ST_isMinus_2) hP hD hS hA [0, 1] [] [0, 1] rfl (wr := []) rfl (by decide) (by decide) (fun _ => rfl) (by decide) (fun r u_ H locs hq2 hP hD hS => ?_)
  subst hq2
  refine cx_bipush hx hb d_ST_isMinus_5 rfl ?_
  refine cx_icmp_ne (tgt := 14) hx hb d_ST_isMinus_7 rfl (by omega) (by omega) (fun h7 => ?_) (fun h7 => ?_)
  · refine cx_iconst hx hb d_ST_isMinus_14 ?_
    exact hret () (Or.inl rfl) (Or.inr ⟨rfl, by omega⟩) hP hD hS d_ST_isMinus_15
  · refine cx_iconst hx hb d_ST_isMinus_10 ?_
    refine lv_goto (tgt := 15) hx hb d_ST_isMinus_11 rfl ?_
    exact hret () (Or.inr rfl) (Or.inl ⟨rfl, by omega⟩) hP hD hS d_ST_isMinus_15

set_option maxHeartbeats 4000000 in
set_option maxRecDepth 100000 in
theorem c_ST_place (l : Launch) (D : va_G) (T : Nat → ClassId) (sz : Nat) (q : Nat → Nat) (n : Nat) (ch mk : Int → Int) (hn : 400 ≤ n ∧ n ≤ 2000) (z : Int) (h_z : 0 ≤ z ∧ z < n) (v : Int) (h_v : 0 ≤ v ∧ v < 64) (k : Int) (hk : k = 0 ∨ k = 1) : MV l y_ST_place (wY y_ST_place b_ST_place 4 none) (rmK 0) D vwCl (tyL T) nwL sz [.ref (q 1), .int (iI (z)), .int (iI (v)), .int (iI (k))] (sW T q n ch mk) (fun (_ : Unit) => True) (fun _ => sW T q n (fu ch z v) (fu mk z k)) := by
  refine cx_inV (by decide) rfl (Nat.le_of_ble_eq_true rfl) ?_
  intro p e s m below meth cd ls A Q hx hb hml hT hown hret hP hK hD hN hS hA hl
  have hown : s.vm.findClass R_ST = some m.cls := hown
  have hl : lv_has ls 4 [(0, .ref (q 1)), (1, .int (iI (z))), (2, .int (iI (v))), (3, .int (iI (k)))] := hl
  refine lv_aload_n hx hb d_ST_place_0 rfl (lv_at hl 0 rfl) ?_
  refine va_get (D := D) (ci := 3) (v := .ref (q 2)) (C := R_ST) (T := T_ST) (N := 1) hx hb hT lays_ST hown hK hP 0 rfl rfl 0 (by decide) (hT _ tw_31) (fun _ h9 => h9) rfl d_ST_place_1 ?_
  refine lv_iload_n hx hb d_ST_place_4 rfl (lv_at hl 1 rfl) ?_
  refine lv_iload_n hx hb d_ST_place_5 rfl (lv_at hl 3 rfl) ?_
  refine cx_if_eq (tgt := 16) hx hb d_ST_place_6 rfl (by omega) (fun h6 => ?_) (fun h6 => ?_)
  · subst h6
    refine lv_iload_n hx hb d_ST_place_16 rfl (lv_at hl 2 rfl) ?_
    refine cx_eq (show iI v = iI (v + 64 * 0) by rw [Int.mul_zero, Int.add_zero]) ?_
    refine cx_iast (g := ceF ch mk) (g' := ceF (fu ch z v) (fu mk z 0)) hx hb hK hP hD hS 1 0 rfl rfl (by omega) (by omega) (fun j => ceF_put j) d_ST_place_17 (fun H locs hP hD hS => ?_)
    have hP : va_P D vwCl (sW T q n (fu ch z v) (fu mk z 0)) H := hP
    have hD : va_D A (sW T q n (fu ch z v) (fu mk z 0)) := hD
    exact hret () trivial hP hD hS d_ST_place_18
  · obtain rfl : k = 1 := by omega
    refine lv_iload_n hx hb d_ST_place_9 rfl (lv_at hl 2 rfl) ?_
    refine cx_bipush hx hb d_ST_place_10 rfl ?_
    refine lv_ior hx hb d_ST_place_12 ?_
    refine cx_eq (bt_om h_v) ?_
    refine lv_goto (tgt := 17) hx hb d_ST_place_13 rfl ?_
    refine cx_iast (g := ceF ch mk) (g' := ceF (fu ch z v) (fu mk z 1)) hx hb hK hP hD hS 1 0 rfl rfl (by omega) (by omega) (fun j => ceF_put j) d_ST_place_17 (fun H locs hP hD hS => ?_)
    have hP : va_P D vwCl (sW T q n (fu ch z v) (fu mk z 1)) H := hP
    have hD : va_D A (sW T q n (fu ch z v) (fu mk z 1)) := hD
    exact hret () trivial hP hD hS d_ST_place_18

set_option maxHeartbeats 4000000 in
set_option maxRecDepth 100000 in
theorem c_ST_write (l : Launch) (D : va_G) (T : Nat → ClassId) (sz : Nat) (q : Nat → Nat) (n : Nat) (ch mk : Int → Int) (hn : 400 ≤ n ∧ n ≤ 2000) (hC : okC ch mk) (z : Int) (h_z : 0 ≤ z ∧ z < n) (v : Int) (h_v : 0 ≤ v ∧ v < 64) : MV l y_ST_write (wY y_ST_write b_ST_write 3 none) (rmK 0) D vwCl (tyL T) nwL sz [.ref (q 1), .int (iI (z)), .int (iI (v))] (sW T q n ch mk) (fun (_ : Unit) => True) (fun _ => sW T q n (fu ch z v) mk) := by
  refine cx_inV (by decide) rfl (Nat.le_of_ble_eq_true rfl) ?_
  intro p e s m below meth cd ls A Q hx hb hml hT hown hret hP hK hD hN hS hA hl
  have hown : s.vm.findClass R_ST = some m.cls := hown
  have hl : lv_has ls 3 [(0, .ref (q 1)), (1, .int (iI (z))), (2, .int (iI (v)))] := hl
  refine lv_aload_n hx hb d_ST_write_0 rfl (lv_at hl 0 rfl) ?_
  refine va_get (D := D) (ci := 3) (v := .ref (q 2)) (C := R_ST) (T := T_ST) (N := 1) hx hb hT lays_ST hown hK hP 0 rfl rfl 0 (by decide) (hT _ tw_31) (fun _ h9 => h9) rfl d_ST_write_1 ?_
  refine lv_iload_n hx hb d_ST_write_4 rfl (lv_at hl 1 rfl) ?_
  refine lv_aload_n hx hb d_ST_write_5 rfl (lv_at hl 0 rfl) ?_
  refine va_get (D := D) (ci := 3) (v := .ref (q 2)) (C := R_ST) (T := T_ST) (N := 1) hx hb hT lays_ST hown hK hP 0 rfl rfl 0 (by decide) (hT _ tw_31) (fun _ h9 => h9) rfl d_ST_write_6 ?_
  refine lv_iload_n hx hb d_ST_write_9 rfl (lv_at hl 1 rfl) ?_
  refine cx_iald (g := ceF ch mk) hx hb hK hP 1 0 rfl rfl (by omega) (by omega) d_ST_write_10 ?_
  refine cx_bipush hx hb d_ST_write_11 rfl ?_
  refine lv_iand hx hb d_ST_write_13 ?_
  refine cx_eq (bt_64 (hC.1 z) (hC.2 z)) ?_
  refine lv_iload_n hx hb d_ST_write_14 rfl (lv_at hl 2 rfl) ?_
  refine lv_ior hx hb d_ST_write_15 ?_
  refine cx_eq (bt_mo h_v (hC.2 z)) ?_
  refine cx_iast (g := ceF ch mk) (g' := ceF (fu ch z v) mk) hx hb hK hP hD hS 1 0 rfl rfl (by omega) (by omega) (fun j => ceF_wr j) d_ST_write_16 (fun H locs hP hD hS => ?_)
  have hP : va_P D vwCl (sW T q n (fu ch z v) mk) H := hP
  have hD : va_D A (sW T q n (fu ch z v) mk) := hD
  exact hret () trivial hP hD hS d_ST_write_17

set_option maxHeartbeats 4000000 in
set_option maxRecDepth 100000 in
theorem c_ST_writeZone (l : Launch) (D : va_G) (T : Nat → ClassId) (sz : Nat) (q : Nat → Nat) (n : Nat) (ch mk : Int → Int) (hn : 400 ≤ n ∧ n ≤ 2000) (hC : okC ch mk) (z : Int) (h_z : 0 ≤ z ∧ z < n) (v : Int) (h_v : 0 ≤ v ∧ v < 4) : MV l y_ST_writeZone (wY y_ST_writeZone b_ST_writeZone 3 none) (rmK 1) D vwCl (tyL T) nwL sz [.ref (q 1), .int (iI (z)), .int (iI (16 * v))] (sW T q n ch mk) (fun (_ : Unit) => True) (fun _ => sW T q n (fu ch z (ch z % 16 + 16 * v)) mk) := by
  refine cx_inV (by decide) rfl (Nat.le_of_ble_eq_true rfl) ?_
  intro p e s m below meth cd ls A Q hx hb hml hT hown hret hP hK hD hN hS hA hl
  have hown : s.vm.findClass R_ST = some m.cls := hown
  have hl : lv_has ls 3 [(0, .ref (q 1)), (1, .int (iI (z))), (2, .int (iI (16 * v)))] := hl
  have hc := hC.1 z
  refine lv_aload_n hx hb d_ST_writeZone_0 rfl (lv_at hl 0 rfl) ?_
  refine lv_iload_n hx hb d_ST_writeZone_1 rfl (lv_at hl 1 rfl) ?_
  refine lv_aload_n hx hb d_ST_writeZone_2 rfl (lv_at hl 0 rfl) ?_
  refine lv_iload_n hx hb d_ST_writeZone_3 rfl (lv_at hl 1 rfl) ?_
  refine cx_cI (ws2 := fun _ => sW T q n ch mk) (cx_rV (q0 := 0) (ci := 3) (rest := [.int (iI (z)), .ref (q 1)]) (As := [.int (iI (z))]) hx hb hml hown hT hK hN hP hD hl.1 tw_397 k_ST_character (c_ST_character l D T s.heap.size q n ch mk hn hC z (by omega)) ⟨by decide, by decide⟩ ⟨rfl, rfl⟩ [0, 1] (by decide) rfl rfl rfl rfl rfl (Nat.le_of_ble_eq_true rfl) ⟨Nat.zero_le _, Nat.zero_le _⟩ d_ST_writeZone_4) hP hD hS hA [0, 1] [] [0, 1] rfl (wr := []) rfl (by decide) (by decide) (fun _ => rfl) (by decide) (fun r u_ H locs hq4 hP hD hS => ?_)
  subst hq4
  refine cx_bipush hx hb d_ST_writeZone_7 rfl ?_
  refine lv_iand hx hb d_ST_writeZone_9 ?_
  refine cx_eq (bt_c15 hc) ?_
  refine lv_iload_n hx hb d_ST_writeZone_10 rfl (lv_at hl 2 rfl) ?_
  refine lv_ior hx hb d_ST_writeZone_11 ?_
  refine cx_eq (bt_dz (by omega) h_v) ?_
  refine cx_cV (ws2 := fun _ => sW T q n (fu ch (z) (ch z % 16 + 16 * v)) mk) (cx_rV (q0 := 0) (ci := 3) (rest := []) (As := [.int (iI (z)), .int (iI (ch z % 16 + 16 * v))]) hx hb hml hown hT hK hN hP hD hl.1 tw_398 k_ST_write (c_ST_write l D T H.size q n ch mk hn hC z (by omega) (ch z % 16 + 16 * v) (by omega)) ⟨by decide, by decide⟩ ⟨rfl, rfl⟩ [0, 1] (by decide) rfl rfl rfl rfl rfl (Nat.le_of_ble_eq_true rfl) ⟨Nat.zero_le _, Nat.zero_le _⟩ d_ST_writeZone_12) hP hD hS hA [0, 1] [] [0, 1] rfl (wr := []) rfl (by decide) (by decide) (fun _ => rfl) (by decide) (fun u_ H locs hq12 hP hD hS => ?_)
  have hC : okC (fu ch (z) (ch z % 16 + 16 * v)) mk := okC_fu hC (by omega)
  exact hret () trivial hP hD hS d_ST_writeZone_15

set_option maxHeartbeats 4000000 in
set_option maxRecDepth 100000 in
theorem c_ST_mark (l : Launch) (D : va_G) (T : Nat → ClassId) (sz : Nat) (q : Nat → Nat) (n : Nat) (ch mk : Int → Int) (hn : 400 ≤ n ∧ n ≤ 2000) (hC : okC ch mk) (z : Int) (h_z : 0 ≤ z ∧ z < n) (k : Int) (hk : k = 0 ∨ k = 1) : MV l y_ST_mark (wY y_ST_mark b_ST_mark 3 none) (rmK 1) D vwCl (tyL T) nwL sz [.ref (q 1), .int (iI (z)), .int (iI (k))] (sW T q n ch mk) (fun (_ : Unit) => True) (fun _ => sW T q n ch (fu mk z k)) := by
  refine cx_inV (by decide) rfl (Nat.le_of_ble_eq_true rfl) ?_
  intro p e s m below meth cd ls A Q hx hb hml hT hown hret hP hK hD hN hS hA hl
  have hown : s.vm.findClass R_ST = some m.cls := hown
  have hl : lv_has ls 3 [(0, .ref (q 1)), (1, .int (iI (z))), (2, .int (iI (k)))] := hl
  have hc := hC.1 z
  refine lv_aload_n hx hb d_ST_mark_0 rfl (lv_at hl 0 rfl) ?_
  refine lv_iload_n hx hb d_ST_mark_1 rfl (lv_at hl 1 rfl) ?_
  refine lv_aload_n hx hb d_ST_mark_2 rfl (lv_at hl 0 rfl) ?_
  refine lv_iload_n hx hb d_ST_mark_3 rfl (lv_at hl 1 rfl) ?_
  refine cx_cI (ws2 := fun _ => sW T q n ch mk) (cx_rV (q0 := 0) (ci := 3) (rest := [.int (iI (z)), .ref (q 1)]) (As := [.int (iI (z))]) hx hb hml hown hT hK hN hP hD hl.1 tw_397 k_ST_character (c_ST_character l D T s.heap.size q n ch mk hn hC z (by omega)) ⟨by decide, by decide⟩ ⟨rfl, rfl⟩ [0, 1] (by decide) rfl rfl rfl rfl rfl (Nat.le_of_ble_eq_true rfl) ⟨Nat.zero_le _, Nat.zero_le _⟩ d_ST_mark_4) hP hD hS hA [0, 1] [] [0, 1] rfl (wr := []) rfl (by decide) (by decide) (fun _ => rfl) (by decide) (fun r u_ H locs hq4 hP hD hS => ?_)
  subst hq4
  refine lv_iload_n hx hb d_ST_mark_7 rfl (lv_at hl 2 rfl) ?_
  refine cx_cV (ws2 := fun _ => sW T q n (fu ch (z) (ch (z))) (fu mk (z) (k))) (cx_rV (q0 := 0) (ci := 3) (rest := []) (As := [.int (iI (z)), .int (iI (ch (z))), .int (iI (k))]) hx hb hml hown hT hK hN hP hD hl.1 tw_469 k_ST_place (c_ST_place l D T H.size q n ch mk hn z (by omega) (ch (z)) (by omega) k (by omega)) ⟨by decide, by decide⟩ ⟨rfl, rfl⟩ [0, 1] (by decide) rfl rfl rfl rfl rfl (Nat.le_of_ble_eq_true rfl) ⟨Nat.zero_le _, Nat.zero_le _⟩ d_ST_mark_8) hP hD hS hA [0, 1] [] [0, 1] rfl (wr := []) rfl (by decide) (by decide) (fun _ => rfl) (by decide) (fun u_ H locs hq8 hP hD hS => ?_)
  have e9 : fu ch z (ch z) = ch := fu_id ch z
  rw [e9] at hP hD
  exact hret () trivial hP hD hS d_ST_mark_11

set_option maxHeartbeats 4000000 in
set_option maxRecDepth 100000 in
theorem c_ST_fieldLength2 (l : Launch) (D : va_G) (T : Nat → ClassId) (sz : Nat) (q : Nat → Nat) (n : Nat) (ch mk : Int → Int) (hn : 400 ≤ n ∧ n ≤ 2000) (hC : okC ch mk) (u most : Int) (h_u : -2147483648 ≤ u ∧ u < 2147483648) (hm : -2147483648 ≤ most ∧ most < 2147483648) : MI l y_ST_fieldLength2 (wY y_ST_fieldLength2 b_ST_fieldLength2 4 (some .int)) (rmK 1) D vwCl (tyL T) nwL sz [.ref (q 1), .int (iI (u)), .int (iI (most))] (sW T q n ch mk) (fun r (_ : Unit) => r = iI (flr (fld n mk u most 2001 1))) (fun _ => sW T q n ch mk) := by
  refine cx_inI (by decide) rfl (Nat.le_of_ble_eq_true rfl) ?_
  intro p e s m below meth cd ls A Q hx hb hml hT hown hret hP hK hD hN hS hA hl
  have hown : s.vm.findClass R_ST = some m.cls := hown
  have hl : lv_has ls 4 [(0, .ref (q 1)), (1, .int (iI (u))), (2, .int (iI (most)))] := hl
  refine lv_aload_n hx hb d_ST_fieldLength2_0 rfl (lv_at hl 0 rfl) ?_
  refine lv_iload_n hx hb d_ST_fieldLength2_1 rfl (lv_at hl 1 rfl) ?_
  refine cx_cI (ws2 := fun _ => sW T q n ch mk) (cx_rV (q0 := 0) (ci := 3) (rest := []) (As := [.int (iI (u))]) hx hb hml hown hT hK hN hP hD hl.1 tw_368 k_ST_has (c_ST_has l D T s.heap.size q n ch mk hn u (by omega)) ⟨by decide, by decide⟩ ⟨rfl, rfl⟩ [0, 1] (by decide) rfl rfl rfl rfl rfl (Nat.le_of_ble_eq_true rfl) ⟨Nat.zero_le _, Nat.zero_le _⟩ d_ST_fieldLength2_2) hP hD hS hA [0, 1] [] [0, 1] rfl (wr := []) rfl (by decide) (by decide) (fun _ => rfl) (by decide) (fun r u_ H locs hq2 hP hD hS => ?_)
  rcases hq2 with ⟨rfl, h2⟩ | ⟨rfl, h2⟩
  · refine cx_if_ne (tgt := 10) hx hb d_ST_fieldLength2_5 rfl (by omega) (fun _ => ?_) (fun h0 => absurd h0 (by decide))
    refine cx_iconst hx hb d_ST_fieldLength2_10 ?_
    refine lv_istore_n (lv' := [(3, .int (iI (1))), (0, .ref (q 1)), (1, .int (iI (u))), (2, .int (iI (most)))]) hx hb d_ST_fieldLength2_11 rfl hl (by decide) rfl (fun ls hl => ?_)
    have L1 : ∀ (k_ : Nat) (j : Int) (H : Heap) (locs : List Loc) (ls : Array Slot), (1 ≤ j ∧ j ≤ u + 2 ∧ u + 2 - j < k_) → (fld n mk u most 2001 1 = fld n mk u most k_ j) → va_P D vwCl (sW T q n ch mk) H → va_D A (sW T q n ch mk) → va_S A s.heap H locs → lv_has ls 4 [(3, .int (iI (j))), (0, .ref (q 1)), (1, .int (iI (u))), (2, .int (iI (most)))] → W p l e (rmK 1) s m ([.ref (q 1), .int (iI (u)), .int (iI (most))] : List Value).toArray below meth cd H locs 0 0 Q (F0 m 12 ls []) := by
      intro k_
      induction k_ with
      | zero => intro j H locs ls hj hf _ _ _ _; exact absurd hj (by omega)
      | succ k_ ih1 =>
        intro j H locs ls hj hf hP hD hS hl
        refine lv_iload_n hx hb d_ST_fieldLength2_12 rfl (lv_at hl 0 rfl) ?_
        refine lv_iload_n hx hb d_ST_fieldLength2_13 rfl (lv_at hl 2 rfl) ?_
        refine cx_iconst hx hb d_ST_fieldLength2_14 ?_
        refine cx_iadd hx hb d_ST_fieldLength2_15 ?_
        refine cx_icmp_gt (tgt := 44) hx hb d_ST_fieldLength2_16 rfl (by omega) (by omega) (fun h16 => ?_) (fun h16 => ?_)
        · refine cx_iconst hx hb d_ST_fieldLength2_44 ?_
          exact hret () (by rw [hf, fld, if_neg (by omega)]; rfl) hP hD hS d_ST_fieldLength2_45
        · refine lv_iload_n hx hb d_ST_fieldLength2_19 rfl (lv_at hl 0 rfl) ?_
          refine lv_iload_n hx hb d_ST_fieldLength2_20 rfl (lv_at hl 3 rfl) ?_
          refine cx_icmp_eq (tgt := 36) hx hb d_ST_fieldLength2_21 rfl (by omega) (by omega) (fun h21 => ?_) (fun h21 => ?_)
          · refine lv_iload_n hx hb d_ST_fieldLength2_36 rfl (lv_at hl 0 rfl) ?_
            exact hret () (by rw [hf, fld, if_pos (by omega), if_pos (by omega), flr_pos (by omega)]) hP hD hS d_ST_fieldLength2_37
          · refine lv_aload_n hx hb d_ST_fieldLength2_24 rfl (lv_at hl 1 rfl) ?_
            refine lv_iload_n hx hb d_ST_fieldLength2_25 rfl (lv_at hl 2 rfl) ?_
            refine lv_iload_n hx hb d_ST_fieldLength2_26 rfl (lv_at hl 0 rfl) ?_
            refine cx_isub hx hb d_ST_fieldLength2_27 ?_
            refine cx_iconst hx hb d_ST_fieldLength2_28 ?_
            refine cx_iadd hx hb d_ST_fieldLength2_29 ?_
            refine cx_cI (ws2 := fun _ => sW T q n ch mk) (cx_rV (q0 := 0) (ci := 3) (rest := []) (As := [.int (iI ((u - j) + 1))]) hx hb hml hown hT hK hN hP hD hl.1 tw_192 k_ST_hasMark (c_ST_hasMark l D T H.size q n ch mk hn hC ((u - j) + 1) (by omega)) ⟨by decide, by decide⟩ ⟨rfl, rfl⟩ [0, 1] (by decide) rfl rfl rfl rfl rfl (Nat.le_of_ble_eq_true rfl) ⟨Nat.zero_le _, Nat.zero_le _⟩ d_ST_fieldLength2_30) hP hD hS hA [0, 1] [] [0, 1] rfl (wr := []) rfl (by decide) (by decide) (fun _ => rfl) (by decide) (fun r u_ H locs hq30 hP hD hS => ?_)
            rcases hq30 with ⟨rfl, h30⟩ | ⟨rfl, h30⟩
            · refine cx_if_eq (tgt := 38) hx hb d_ST_fieldLength2_33 rfl (by omega) (fun h0 => absurd h0 (by decide)) (fun _ => ?_)
              refine lv_iload_n hx hb d_ST_fieldLength2_36 rfl (lv_at hl 0 rfl) ?_
              exact hret () (by rw [hf, fld, if_pos (by omega), if_pos (by omega), flr_pos (by omega)]) hP hD hS d_ST_fieldLength2_37
            · refine cx_if_eq (tgt := 38) hx hb d_ST_fieldLength2_33 rfl (by omega) (fun _ => ?_) (fun h0 => absurd h0 (by decide))
              refine cx_iinc (k := 0) (lv' := [(3, .int (iI (j + 1))), (0, .ref (q 1)), (1, .int (iI (u))), (2, .int (iI (most)))]) hx hb d_ST_fieldLength2_38 hl rfl (by decide) rfl (fun ls hl => ?_)
              refine lv_goto (tgt := 12) hx hb d_ST_fieldLength2_41 rfl ?_
              exact ih1 (j + 1) _ _ _ (by omega) (by rw [hf, fld, if_pos (by omega), if_neg (by omega)]) hP hD hS (lv_sub hl [0, 1, 2, 3] rfl)
    exact L1 2001 1 _ _ _ (by omega) rfl hP hD hS (lv_sub hl [0, 1, 2, 3] rfl)
  · refine cx_if_ne (tgt := 10) hx hb d_ST_fieldLength2_5 rfl (by omega) (fun h0 => absurd h0 (by decide)) (fun _ => ?_)
    refine cx_iconst hx hb d_ST_fieldLength2_8 ?_
    exact hret () (by rw [fld_no h2]; rfl) hP hD hS d_ST_fieldLength2_9

set_option maxHeartbeats 4000000 in
set_option maxRecDepth 100000 in
theorem c_ST_fieldLength1 (l : Launch) (D : va_G) (T : Nat → ClassId) (sz : Nat) (q : Nat → Nat) (n : Nat) (ch mk : Int → Int) (hn : 400 ≤ n ∧ n ≤ 2000) (hC : okC ch mk) (u : Int) (h_u : -2147483648 ≤ u ∧ u < 2147483648) : MI l y_ST_fieldLength1 (wY y_ST_fieldLength1 b_ST_fieldLength1 2 (some .int)) (rmK 2) D vwCl (tyL T) nwL sz [.ref (q 1), .int (iI (u))] (sW T q n ch mk) (fun r (_ : Unit) => r = iI (flr (fld n mk u (n + 1) 2001 1))) (fun _ => sW T q n ch mk) := by
  refine cx_inI (by decide) rfl (Nat.le_of_ble_eq_true rfl) ?_
  intro p e s m below meth cd ls A Q hx hb hml hT hown hret hP hK hD hN hS hA hl
  have hown : s.vm.findClass R_ST = some m.cls := hown
  have hl : lv_has ls 2 [(0, .ref (q 1)), (1, .int (iI (u)))] := hl
  refine lv_aload_n hx hb d_ST_fieldLength1_0 rfl (lv_at hl 0 rfl) ?_
  refine lv_iload_n hx hb d_ST_fieldLength1_1 rfl (lv_at hl 1 rfl) ?_
  refine lv_aload_n hx hb d_ST_fieldLength1_2 rfl (lv_at hl 0 rfl) ?_
  refine va_get (D := D) (ci := 3) (v := .ref (q 2)) (C := R_ST) (T := T_ST) (N := 1) hx hb hT lays_ST hown hK hP 0 rfl rfl 0 (by decide) (hT _ tw_31) (fun _ h9 => h9) rfl d_ST_fieldLength1_3 ?_
  refine va_alen (v := iI ((n : Nat) : Int)) hx hb hK hP 1 0 rfl rfl (iI_nI n).symm d_ST_fieldLength1_6 ?_
  refine cx_iconst hx hb d_ST_fieldLength1_7 ?_
  refine cx_iadd hx hb d_ST_fieldLength1_8 ?_
  refine cx_cI (ws2 := fun _ => sW T q n ch mk) (cx_rV (q0 := 0) (ci := 3) (rest := []) (As := [.int (iI (u)), .int (iI (((n : Int)) + 1))]) hx hb hml hown hT hK hN hP hD hl.1 tw_364 k_ST_fieldLength2 (c_ST_fieldLength2 l D T s.heap.size q n ch mk hn hC u (((n : Int)) + 1) (by omega) (by omega)) ⟨by decide, by decide⟩ ⟨rfl, rfl⟩ [0, 1] (by decide) rfl rfl rfl rfl rfl (Nat.le_of_ble_eq_true rfl) ⟨Nat.zero_le _, Nat.zero_le _⟩ d_ST_fieldLength1_9) hP hD hS hA [0, 1] [] [0, 1] rfl (wr := []) rfl (by decide) (by decide) (fun _ => rfl) (by decide) (fun r u_ H locs hq9 hP hD hS => ?_)
  subst hq9
  exact hret () rfl hP hD hS d_ST_fieldLength1_12

set_option maxHeartbeats 4000000 in
set_option maxRecDepth 100000 in
theorem c_ST_commonLength (l : Launch) (D : va_G) (T : Nat → ClassId) (sz : Nat) (q : Nat → Nat) (n : Nat) (ch mk : Int → Int) (hn : 400 ≤ n ∧ n ≤ 2000) (hC : okC ch mk) (a b : Int) (ha : -2147483648 ≤ a ∧ a < 2147483648) (hb1 : -2147483648 ≤ b ∧ b < 2147483648) : MI l y_ST_commonLength (wY y_ST_commonLength b_ST_commonLength 5 (some .int)) (rmK 1) D vwCl (tyL T) nwL sz [.ref (q 1), .int (iI (a)), .int (iI (b))] (sW T q n ch mk) (fun r (_ : Unit) => r = iI (flr (cmn n mk a b 2001 1))) (fun _ => sW T q n ch mk) := by
  refine cx_inI (by decide) rfl (Nat.le_of_ble_eq_true rfl) ?_
  intro p e s m below meth cd ls A Q hx hb hml hT hown hret hP hK hD hN hS hA hl
  have hown : s.vm.findClass R_ST = some m.cls := hown
  have hl : lv_has ls 5 [(0, .ref (q 1)), (1, .int (iI (a))), (2, .int (iI (b)))] := hl
  refine lv_aload_n hx hb d_ST_commonLength_0 rfl (lv_at hl 0 rfl) ?_
  refine lv_iload_n hx hb d_ST_commonLength_1 rfl (lv_at hl 1 rfl) ?_
  refine cx_cI (ws2 := fun _ => sW T q n ch mk) (cx_rV (q0 := 0) (ci := 3) (rest := []) (As := [.int (iI (a))]) hx hb hml hown hT hK hN hP hD hl.1 tw_368 k_ST_has (c_ST_has l D T s.heap.size q n ch mk hn a (by omega)) ⟨by decide, by decide⟩ ⟨rfl, rfl⟩ [0, 1] (by decide) rfl rfl rfl rfl rfl (Nat.le_of_ble_eq_true rfl) ⟨Nat.zero_le _, Nat.zero_le _⟩ d_ST_commonLength_2) hP hD hS hA [0, 1] [] [0, 1] rfl (wr := []) rfl (by decide) (by decide) (fun _ => rfl) (by decide) (fun r u_ H locs hq2 hP hD hS => ?_)
  rcases hq2 with ⟨rfl, h2⟩ | ⟨rfl, h2⟩
  · refine cx_if_eq (tgt := 16) hx hb d_ST_commonLength_5 rfl (by omega) (fun h0 => absurd h0 (by decide)) (fun _ => ?_)
    refine lv_aload_n hx hb d_ST_commonLength_8 rfl (lv_at hl 0 rfl) ?_
    refine lv_iload_n hx hb d_ST_commonLength_9 rfl (lv_at hl 2 rfl) ?_
    refine cx_cI (ws2 := fun _ => sW T q n ch mk) (cx_rV (q0 := 0) (ci := 3) (rest := []) (As := [.int (iI (b))]) hx hb hml hown hT hK hN hP hD hl.1 tw_368 k_ST_has (c_ST_has l D T H.size q n ch mk hn b (by omega)) ⟨by decide, by decide⟩ ⟨rfl, rfl⟩ [0, 1] (by decide) rfl rfl rfl rfl rfl (Nat.le_of_ble_eq_true rfl) ⟨Nat.zero_le _, Nat.zero_le _⟩ d_ST_commonLength_10) hP hD hS hA [0, 1] [] [0, 1] rfl (wr := []) rfl (by decide) (by decide) (fun _ => rfl) (by decide) (fun r u_ H locs hq10 hP hD hS => ?_)
    rcases hq10 with ⟨rfl, h10⟩ | ⟨rfl, h10⟩
    · refine cx_if_ne (tgt := 18) hx hb d_ST_commonLength_13 rfl (by omega) (fun _ => ?_) (fun h0 => absurd h0 (by decide))
      refine lv_iload_n hx hb d_ST_commonLength_18 rfl (lv_at hl 1 rfl) ?_
      refine lv_iload_n hx hb d_ST_commonLength_19 rfl (lv_at hl 2 rfl) ?_
      refine cx_min hx hb (hml.trans hl.1.symm) hown hT tw_424 (by decide) (Nat.le_of_ble_eq_true rfl) (Nat.zero_le _) (Nat.zero_le _) (by omega) (by omega) d_ST_commonLength_20 (fun t ht => ?_)
      refine cx_iconst hx hb d_ST_commonLength_23 ?_
      refine cx_iadd hx hb d_ST_commonLength_24 ?_
      refine lv_istore_n (lv' := [(3, .int (iI (t + 1))), (0, .ref (q 1)), (1, .int (iI (a))), (2, .int (iI (b)))]) hx hb d_ST_commonLength_25 rfl hl (by decide) rfl (fun ls hl => ?_)
      refine cx_iconst hx hb d_ST_commonLength_26 ?_
      refine lv_istore (lv' := [(4, .int (iI (1))), (3, .int (iI (t + 1))), (0, .ref (q 1)), (1, .int (iI (a))), (2, .int (iI (b)))]) hx hb d_ST_commonLength_27 hl (by decide) rfl (fun ls hl => ?_)
      have L1 : ∀ (k_ : Nat) (j : Int) (H : Heap) (locs : List Loc) (ls : Array Slot), (1 ≤ j ∧ j ≤ t + 2 ∧ t + 2 - j < k_) → (cmn n mk a b 2001 1 = cmn n mk a b k_ j) → va_P D vwCl (sW T q n ch mk) H → va_D A (sW T q n ch mk) → va_S A s.heap H locs → lv_has ls 5 [(4, .int (iI (j))), (3, .int (iI (t + 1))), (0, .ref (q 1)), (1, .int (iI (a))), (2, .int (iI (b)))] → W p l e (rmK 1) s m ([.ref (q 1), .int (iI (a)), .int (iI (b))] : List Value).toArray below meth cd H locs 0 0 Q (F0 m 29 ls []) := by
        intro k_
        induction k_ with
        | zero => intro j H locs ls hj hf _ _ _ _; exact absurd hj (by omega)
        | succ k_ ih1 =>
          intro j H locs ls hj hf hP hD hS hl
          refine lv_iload hx hb d_ST_commonLength_29 (lv_at hl 0 rfl) ?_
          refine lv_iload_n hx hb d_ST_commonLength_31 rfl (lv_at hl 1 rfl) ?_
          refine cx_icmp_gt (tgt := 70) hx hb d_ST_commonLength_32 rfl (by omega) (by omega) (fun h32 => ?_) (fun h32 => ?_)
          · refine cx_iconst hx hb d_ST_commonLength_70 ?_
            exact hret () (by rw [hf, cmn, if_neg (by omega)]; rfl) hP hD hS d_ST_commonLength_71
          · refine lv_aload_n hx hb d_ST_commonLength_35 rfl (lv_at hl 2 rfl) ?_
            refine lv_iload_n hx hb d_ST_commonLength_36 rfl (lv_at hl 3 rfl) ?_
            refine lv_iload hx hb d_ST_commonLength_37 (lv_at hl 0 rfl) ?_
            refine cx_isub hx hb d_ST_commonLength_39 ?_
            refine cx_iconst hx hb d_ST_commonLength_40 ?_
            refine cx_iadd hx hb d_ST_commonLength_41 ?_
            refine cx_cI (ws2 := fun _ => sW T q n ch mk) (cx_rV (q0 := 0) (ci := 3) (rest := []) (As := [.int (iI ((a - j) + 1))]) hx hb hml hown hT hK hN hP hD hl.1 tw_192 k_ST_hasMark (c_ST_hasMark l D T H.size q n ch mk hn hC ((a - j) + 1) (by omega)) ⟨by decide, by decide⟩ ⟨rfl, rfl⟩ [0, 1] (by decide) rfl rfl rfl rfl rfl (Nat.le_of_ble_eq_true rfl) ⟨Nat.zero_le _, Nat.zero_le _⟩ d_ST_commonLength_42) hP hD hS hA [0, 1] [] [0, 1] rfl (wr := []) rfl (by decide) (by decide) (fun _ => rfl) (by decide) (fun r u_ H locs hq42 hP hD hS => ?_)
            rcases hq42 with ⟨rfl, h42⟩ | ⟨rfl, h42⟩
            · refine cx_if_ne (tgt := 61) hx hb d_ST_commonLength_45 rfl (by omega) (fun _ => ?_) (fun h0 => absurd h0 (by decide))
              refine lv_iload hx hb d_ST_commonLength_61 (lv_at hl 0 rfl) ?_
              exact hret () (by rw [hf, cmn, if_pos (by omega), if_pos (by omega), flr_pos (by omega)]) hP hD hS d_ST_commonLength_63
            · refine cx_if_ne (tgt := 61) hx hb d_ST_commonLength_45 rfl (by omega) (fun h0 => absurd h0 (by decide)) (fun _ => ?_)
              refine lv_aload_n hx hb d_ST_commonLength_48 rfl (lv_at hl 2 rfl) ?_
              refine lv_iload_n hx hb d_ST_commonLength_49 rfl (lv_at hl 4 rfl) ?_
              refine lv_iload hx hb d_ST_commonLength_50 (lv_at hl 0 rfl) ?_
              refine cx_isub hx hb d_ST_commonLength_52 ?_
              refine cx_iconst hx hb d_ST_commonLength_53 ?_
              refine cx_iadd hx hb d_ST_commonLength_54 ?_
              refine cx_cI (ws2 := fun _ => sW T q n ch mk) (cx_rV (q0 := 0) (ci := 3) (rest := []) (As := [.int (iI ((b - j) + 1))]) hx hb hml hown hT hK hN hP hD hl.1 tw_192 k_ST_hasMark (c_ST_hasMark l D T H.size q n ch mk hn hC ((b - j) + 1) (by omega)) ⟨by decide, by decide⟩ ⟨rfl, rfl⟩ [0, 1] (by decide) rfl rfl rfl rfl rfl (Nat.le_of_ble_eq_true rfl) ⟨Nat.zero_le _, Nat.zero_le _⟩ d_ST_commonLength_55) hP hD hS hA [0, 1] [] [0, 1] rfl (wr := []) rfl (by decide) (by decide) (fun _ => rfl) (by decide) (fun r u_ H locs hq55 hP hD hS => ?_)
              rcases hq55 with ⟨rfl, h55⟩ | ⟨rfl, h55⟩
              · refine cx_if_eq (tgt := 64) hx hb d_ST_commonLength_58 rfl (by omega) (fun h0 => absurd h0 (by decide)) (fun _ => ?_)
                refine lv_iload hx hb d_ST_commonLength_61 (lv_at hl 0 rfl) ?_
                exact hret () (by rw [hf, cmn, if_pos (by omega), if_pos (by omega), flr_pos (by omega)]) hP hD hS d_ST_commonLength_63
              · refine cx_if_eq (tgt := 64) hx hb d_ST_commonLength_58 rfl (by omega) (fun _ => ?_) (fun h0 => absurd h0 (by decide))
                refine cx_iinc (k := 0) (lv' := [(4, .int (iI (j + 1))), (3, .int (iI (t + 1))), (0, .ref (q 1)), (1, .int (iI (a))), (2, .int (iI (b)))]) hx hb d_ST_commonLength_64 hl rfl (by decide) rfl (fun ls hl => ?_)
                refine lv_goto (tgt := 29) hx hb d_ST_commonLength_67 rfl ?_
                exact ih1 (j + 1) _ _ _ (by omega) (by rw [hf, cmn, if_pos (by omega), if_neg (by omega)]) hP hD hS (lv_sub hl [0, 1, 2, 3, 4] rfl)
      exact L1 2001 1 _ _ _ (by omega) rfl hP hD hS (lv_sub hl [0, 1, 2, 3, 4] rfl)
    · refine cx_if_ne (tgt := 18) hx hb d_ST_commonLength_13 rfl (by omega) (fun h0 => absurd h0 (by decide)) (fun _ => ?_)
      refine cx_iconst hx hb d_ST_commonLength_16 ?_
      exact hret () (by rw [cmn_no (by omega)]; rfl) hP hD hS d_ST_commonLength_17
  · refine cx_if_eq (tgt := 16) hx hb d_ST_commonLength_5 rfl (by omega) (fun _ => ?_) (fun h0 => absurd h0 (by decide))
    refine cx_iconst hx hb d_ST_commonLength_16 ?_
    exact hret () (by rw [cmn_no (by omega)]; rfl) hP hD hS d_ST_commonLength_17

set_option maxHeartbeats 4000000 in
set_option maxRecDepth 100000 in
theorem c_ST_address (l : Launch) (D : va_G) (T : Nat → ClassId) (sz : Nat) (q : Nat → Nat) (n : Nat) (ch mk : Int → Int) (hn : 400 ≤ n ∧ n ≤ 2000) (hC : okC ch mk) (z : Int) (h_z : 0 ≤ z ∧ z + 2 < n) : MI l y_ST_address (wY y_ST_address b_ST_address 3 (some .int)) (rmK 1) D vwCl (tyL T) nwL sz [.ref (q 1), .int (iI (z))] (sW T q n ch mk) (fun r (_ : Unit) => r = iI (adr ch z)) (fun _ => sW T q n ch mk) := by
  refine cx_inI (by decide) rfl (Nat.le_of_ble_eq_true rfl) ?_
  intro p e s m below meth cd ls A Q hx hb hml hT hown hret hP hK hD hN hS hA hl
  have hown : s.vm.findClass R_ST = some m.cls := hown
  have hl : lv_has ls 3 [(0, .ref (q 1)), (1, .int (iI (z)))] := hl
  have h1 := zn_in (hC.1 z)
  have h2 := zn_in (hC.1 (z + 2))
  refine lv_aload_n hx hb d_ST_address_0 rfl (lv_at hl 0 rfl) ?_
  refine lv_iload_n hx hb d_ST_address_1 rfl (lv_at hl 1 rfl) ?_
  refine cx_cI (ws2 := fun _ => sW T q n ch mk) (cx_rV (q0 := 0) (ci := 3) (rest := []) (As := [.int (iI (z))]) hx hb hml hown hT hK hN hP hD hl.1 tw_341 k_ST_zone (c_ST_zone l D T s.heap.size q n ch mk hn hC z (by omega)) ⟨by decide, by decide⟩ ⟨rfl, rfl⟩ [0, 1] (by decide) rfl rfl rfl rfl rfl (Nat.le_of_ble_eq_true rfl) ⟨Nat.zero_le _, Nat.zero_le _⟩ d_ST_address_2) hP hD hS hA [0, 1] [] [0, 1] rfl (wr := []) rfl (by decide) (by decide) (fun _ => rfl) (by decide) (fun r u_ H locs hq2 hP hD hS => ?_)
  subst hq2
  refine cx_bipush hx hb d_ST_address_5 rfl ?_
  refine cx_idiv hx hb d_ST_address_7 (by omega) (by omega) ?_
  refine lv_aload_n hx hb d_ST_address_8 rfl (lv_at hl 0 rfl) ?_
  refine lv_iload_n hx hb d_ST_address_9 rfl (lv_at hl 1 rfl) ?_
  refine cx_iconst hx hb d_ST_address_10 ?_
  refine cx_iadd hx hb d_ST_address_11 ?_
  refine cx_cI (ws2 := fun _ => sW T q n ch mk) (cx_rV (q0 := 0) (ci := 3) (rest := [.int (iI ((zn (ch (z))) / 16))]) (As := [.int (iI (z + 2))]) hx hb hml hown hT hK hN hP hD hl.1 tw_341 k_ST_zone (c_ST_zone l D T H.size q n ch mk hn hC (z + 2) (by omega)) ⟨by decide, by decide⟩ ⟨rfl, rfl⟩ [0, 1] (by decide) rfl rfl rfl rfl rfl (Nat.le_of_ble_eq_true rfl) ⟨Nat.zero_le _, Nat.zero_le _⟩ d_ST_address_12) hP hD hS hA [0, 1] [] [0, 1] rfl (wr := []) rfl (by decide) (by decide) (fun _ => rfl) (by decide) (fun r u_ H locs hq12 hP hD hS => ?_)
  subst hq12
  refine cx_bipush hx hb d_ST_address_15 rfl ?_
  refine cx_idiv hx hb d_ST_address_17 (by omega) (by omega) ?_
  refine cx_iconst hx hb d_ST_address_18 ?_
  refine cx_imul hx hb d_ST_address_19 ?_
  refine cx_iadd hx hb d_ST_address_20 ?_
  refine lv_istore_n (lv' := [(2, .int (iI (((zn (ch (z))) / 16) + (((zn (ch (z + 2))) / 16) * 4)))), (0, .ref (q 1)), (1, .int (iI (z)))]) hx hb d_ST_address_21 rfl hl (by decide) rfl (fun ls hl => ?_)
  refine lv_iload_n hx hb d_ST_address_22 rfl (lv_at hl 0 rfl) ?_
  refine cx_sipush hx hb d_ST_address_23 rfl ?_
  refine cx_imul hx hb d_ST_address_26 ?_
  refine lv_aload_n hx hb d_ST_address_27 rfl (lv_at hl 1 rfl) ?_
  refine lv_iload_n hx hb d_ST_address_28 rfl (lv_at hl 2 rfl) ?_
  refine cx_cI (ws2 := fun _ => sW T q n ch mk) (cx_rV (q0 := 0) (ci := 3) (rest := [.int (iI ((((zn (ch (z))) / 16) + (((zn (ch (z + 2))) / 16) * 4)) * 1000))]) (As := [.int (iI (z))]) hx hb hml hown hT hK hN hP hD hl.1 tw_345 k_ST_digit (c_ST_digit l D T H.size q n ch mk hn hC z (by omega)) ⟨by decide, by decide⟩ ⟨rfl, rfl⟩ [0, 1] (by decide) rfl rfl rfl rfl rfl (Nat.le_of_ble_eq_true rfl) ⟨Nat.zero_le _, Nat.zero_le _⟩ d_ST_address_29) hP hD hS hA [0, 1] [] [0, 1] rfl (wr := []) rfl (by decide) (by decide) (fun _ => rfl) (by decide) (fun r u_ H locs hq29 hP hD hS => ?_)
  subst hq29
  refine cx_bipush hx hb d_ST_address_32 rfl ?_
  refine cx_imul hx hb d_ST_address_34 ?_
  refine cx_iadd hx hb d_ST_address_35 ?_
  refine lv_aload_n hx hb d_ST_address_36 rfl (lv_at hl 1 rfl) ?_
  refine lv_iload_n hx hb d_ST_address_37 rfl (lv_at hl 2 rfl) ?_
  refine cx_iconst hx hb d_ST_address_38 ?_
  refine cx_iadd hx hb d_ST_address_39 ?_
  refine cx_cI (ws2 := fun _ => sW T q n ch mk) (cx_rV (q0 := 0) (ci := 3) (rest := [.int (iI (((((zn (ch (z))) / 16) + (((zn (ch (z + 2))) / 16) * 4)) * 1000) + ((vl (ch (z))) * 100)))]) (As := [.int (iI (z + 1))]) hx hb hml hown hT hK hN hP hD hl.1 tw_345 k_ST_digit (c_ST_digit l D T H.size q n ch mk hn hC (z + 1) (by omega)) ⟨by decide, by decide⟩ ⟨rfl, rfl⟩ [0, 1] (by decide) rfl rfl rfl rfl rfl (Nat.le_of_ble_eq_true rfl) ⟨Nat.zero_le _, Nat.zero_le _⟩ d_ST_address_40) hP hD hS hA [0, 1] [] [0, 1] rfl (wr := []) rfl (by decide) (by decide) (fun _ => rfl) (by decide) (fun r u_ H locs hq40 hP hD hS => ?_)
  subst hq40
  refine cx_bipush hx hb d_ST_address_43 rfl ?_
  refine cx_imul hx hb d_ST_address_45 ?_
  refine cx_iadd hx hb d_ST_address_46 ?_
  refine lv_aload_n hx hb d_ST_address_47 rfl (lv_at hl 1 rfl) ?_
  refine lv_iload_n hx hb d_ST_address_48 rfl (lv_at hl 2 rfl) ?_
  refine cx_iconst hx hb d_ST_address_49 ?_
  refine cx_iadd hx hb d_ST_address_50 ?_
  refine cx_cI (ws2 := fun _ => sW T q n ch mk) (cx_rV (q0 := 0) (ci := 3) (rest := [.int (iI ((((((zn (ch (z))) / 16) + (((zn (ch (z + 2))) / 16) * 4)) * 1000) + ((vl (ch (z))) * 100)) + ((vl (ch (z + 1))) * 10)))]) (As := [.int (iI (z + 2))]) hx hb hml hown hT hK hN hP hD hl.1 tw_345 k_ST_digit (c_ST_digit l D T H.size q n ch mk hn hC (z + 2) (by omega)) ⟨by decide, by decide⟩ ⟨rfl, rfl⟩ [0, 1] (by decide) rfl rfl rfl rfl rfl (Nat.le_of_ble_eq_true rfl) ⟨Nat.zero_le _, Nat.zero_le _⟩ d_ST_address_51) hP hD hS hA [0, 1] [] [0, 1] rfl (wr := []) rfl (by decide) (by decide) (fun _ => rfl) (by decide) (fun r u_ H locs hq51 hP hD hS => ?_)
  subst hq51
  refine cx_iadd hx hb d_ST_address_54 ?_
  exact hret () (by rw [adr_eq]) hP hD hS d_ST_address_55

set_option maxHeartbeats 4000000 in
set_option maxRecDepth 100000 in
theorem c_ST_writeAddress (l : Launch) (D : va_G) (T : Nat → ClassId) (sz : Nat) (q : Nat → Nat) (n : Nat) (ch mk : Int → Int) (hn : 400 ≤ n ∧ n ≤ 2000) (hC : okC ch mk) (z : Int) (h_z : 2 ≤ z ∧ z < n) (x : Int) (h_x : 0 ≤ x ∧ x < 16000) : MV l y_ST_writeAddress (wY y_ST_writeAddress b_ST_writeAddress 4 none) (rmK 1) D vwCl (tyL T) nwL sz [.ref (q 1), .int (iI (z)), .int (iI (x))] (sW T q n ch mk) (fun (_ : Unit) => True) (fun _ => sW T q n (wad ch z x) mk) := by
  refine cx_inV (by decide) rfl (Nat.le_of_ble_eq_true rfl) ?_
  intro p e s m below meth cd ls A Q hx hb hml hT hown hret hP hK hD hN hS hA hl
  have hown : s.vm.findClass R_ST = some m.cls := hown
  have hl : lv_has ls 4 [(0, .ref (q 1)), (1, .int (iI (z))), (2, .int (iI (x)))] := hl
  have h1 := wrt_in (v := x / 100 % 10) (by omega)
  have h2 := wrt_in (v := x / 10 % 10) (by omega)
  have h3 := wrt_in (v := x % 10) (by omega)
  refine lv_iload_n hx hb d_ST_writeAddress_0 rfl (lv_at hl 2 rfl) ?_
  refine cx_sipush hx hb d_ST_writeAddress_1 rfl ?_
  refine cx_idiv hx hb d_ST_writeAddress_4 (by omega) (by omega) ?_
  refine lv_istore_n (lv' := [(3, .int (iI (x / 1000))), (0, .ref (q 1)), (1, .int (iI (z))), (2, .int (iI (x)))]) hx hb d_ST_writeAddress_5 rfl hl (by decide) rfl (fun ls hl => ?_)
  refine lv_aload_n hx hb d_ST_writeAddress_6 rfl (lv_at hl 1 rfl) ?_
  refine lv_iload_n hx hb d_ST_writeAddress_7 rfl (lv_at hl 2 rfl) ?_
  refine cx_iconst hx hb d_ST_writeAddress_8 ?_
  refine cx_isub hx hb d_ST_writeAddress_9 ?_
  refine lv_iload_n hx hb d_ST_writeAddress_10 rfl (lv_at hl 3 rfl) ?_
  refine cx_bipush hx hb d_ST_writeAddress_11 rfl ?_
  refine cx_idiv hx hb d_ST_writeAddress_13 (by omega) (by omega) ?_
  refine cx_bipush hx hb d_ST_writeAddress_14 rfl ?_
  refine cx_irem hx hb d_ST_writeAddress_16 (by omega) (by omega) ?_
  refine cx_cI (ws2 := fun _ => sW T q n ch mk) (cx_rN (rest := [.int (iI (z - 2)), .ref (q 1)]) (As := [.int (iI ((x / 100) % 10))]) hx hb hml hown hT hK hN hP hD hl.1 (show (Jvm.Cond.methodLinkNest "CharMachine$Store" (55 : Nat) ({ cls := "CharMachine", name := "written", desc := "(I)I" } : Jvm.MethodName) "CharMachine") ∈ nwL by decide +kernel) k_CM_written (c_CM_written l D T s.heap.size ((x / 100) % 10) (by omega)) ⟨by decide, by decide⟩ ⟨rfl, rfl⟩ [] (by decide) rfl rfl rfl (Nat.le_of_ble_eq_true rfl) ⟨Nat.zero_le _, Nat.zero_le _⟩ d_ST_writeAddress_17) hP hD hS hA [] [0, 1] [0, 1] rfl (wr := [(q 1, .inr (3, [.ref (q 2)])), (q 2, .inl (T 0, n, .inl (fun jj : Nat => (ceF ch mk) (jj : Int))))]) rfl (by decide) (by decide) (fun _ => rfl) (by decide) (fun r u_ H locs hq17 hP hD hS => ?_)
  subst hq17
  refine lv_iload_n hx hb d_ST_writeAddress_20 rfl (lv_at hl 0 rfl) ?_
  refine cx_iconst hx hb d_ST_writeAddress_21 ?_
  refine cx_irem hx hb d_ST_writeAddress_22 (by omega) (by omega) ?_
  refine cx_bipush hx hb d_ST_writeAddress_23 rfl ?_
  refine cx_imul hx hb d_ST_writeAddress_25 ?_
  refine lv_ior hx hb d_ST_writeAddress_26 ?_
  refine cx_eq (bt_zd (by omega) (by omega)) ?_
  refine cx_cV (ws2 := fun _ => sW T q n (fu ch (z - 2) (wrt (x / 100 % 10) + 16 * (x / 1000 % 4))) mk) (cx_rV (q0 := 0) (ci := 3) (rest := []) (As := [.int (iI (z - 2)), .int (iI (wrt (x / 100 % 10) + 16 * (x / 1000 % 4)))]) hx hb hml hown hT hK hN hP hD hl.1 tw_398 k_ST_write (c_ST_write l D T H.size q n ch mk hn hC (z - 2) (by omega) (wrt (x / 100 % 10) + 16 * (x / 1000 % 4)) (by omega)) ⟨by decide, by decide⟩ ⟨rfl, rfl⟩ [0, 1] (by decide) rfl rfl rfl rfl rfl (Nat.le_of_ble_eq_true rfl) ⟨Nat.zero_le _, Nat.zero_le _⟩ d_ST_writeAddress_27) hP hD hS hA [0, 1] [] [0, 1] rfl (wr := []) rfl (by decide) (by decide) (fun _ => rfl) (by decide) (fun u_ H locs hq27 hP hD hS => ?_)
  have hC : okC (fu ch (z - 2) (wrt (x / 100 % 10) + 16 * (x / 1000 % 4))) mk := okC_fu hC (by omega)
  refine lv_aload_n hx hb d_ST_writeAddress_30 rfl (lv_at hl 1 rfl) ?_
  refine lv_iload_n hx hb d_ST_writeAddress_31 rfl (lv_at hl 2 rfl) ?_
  refine cx_iconst hx hb d_ST_writeAddress_32 ?_
  refine cx_isub hx hb d_ST_writeAddress_33 ?_
  refine lv_iload_n hx hb d_ST_writeAddress_34 rfl (lv_at hl 3 rfl) ?_
  refine cx_bipush hx hb d_ST_writeAddress_35 rfl ?_
  refine cx_idiv hx hb d_ST_writeAddress_37 (by omega) (by omega) ?_
  refine cx_bipush hx hb d_ST_writeAddress_38 rfl ?_
  refine cx_irem hx hb d_ST_writeAddress_40 (by omega) (by omega) ?_
  refine cx_cI (ws2 := fun _ => sW T q n (fu ch (z - 2) (wrt (x / 100 % 10) + 16 * (x / 1000 % 4))) mk) (cx_rN (rest := [.int (iI (z - 1)), .ref (q 1)]) (As := [.int (iI ((x / 10) % 10))]) hx hb hml hown hT hK hN hP hD hl.1 (show (Jvm.Cond.methodLinkNest "CharMachine$Store" (55 : Nat) ({ cls := "CharMachine", name := "written", desc := "(I)I" } : Jvm.MethodName) "CharMachine") ∈ nwL by decide +kernel) k_CM_written (c_CM_written l D T H.size ((x / 10) % 10) (by omega)) ⟨by decide, by decide⟩ ⟨rfl, rfl⟩ [] (by decide) rfl rfl rfl (Nat.le_of_ble_eq_true rfl) ⟨Nat.zero_le _, Nat.zero_le _⟩ d_ST_writeAddress_41) hP hD hS hA [] [0, 1] [0, 1] rfl (wr := [(q 1, .inr (3, [.ref (q 2)])), (q 2, .inl (T 0, n, .inl (fun jj : Nat => (ceF (fu ch (z - 2) (wrt (x / 100 % 10) + 16 * (x / 1000 % 4))) mk) (jj : Int))))]) rfl (by decide) (by decide) (fun _ => rfl) (by decide) (fun r u_ H locs hq41 hP hD hS => ?_)
  subst hq41
  refine cx_cV (ws2 := fun _ => sW T q n (fu (fu ch (z - 2) (wrt (x / 100 % 10) + 16 * (x / 1000 % 4))) (z - 1) (wrt ((x / 10) % 10))) mk) (cx_rV (q0 := 0) (ci := 3) (rest := []) (As := [.int (iI (z - 1)), .int (iI (wrt ((x / 10) % 10)))]) hx hb hml hown hT hK hN hP hD hl.1 tw_398 k_ST_write (c_ST_write l D T H.size q n (fu ch (z - 2) (wrt (x / 100 % 10) + 16 * (x / 1000 % 4))) mk hn hC (z - 1) (by omega) (wrt ((x / 10) % 10)) (by omega)) ⟨by decide, by decide⟩ ⟨rfl, rfl⟩ [0, 1] (by decide) rfl rfl rfl rfl rfl (Nat.le_of_ble_eq_true rfl) ⟨Nat.zero_le _, Nat.zero_le _⟩ d_ST_writeAddress_44) hP hD hS hA [0, 1] [] [0, 1] rfl (wr := []) rfl (by decide) (by decide) (fun _ => rfl) (by decide) (fun u_ H locs hq44 hP hD hS => ?_)
  have hC : okC (fu (fu ch (z - 2) (wrt (x / 100 % 10) + 16 * (x / 1000 % 4))) (z - 1) (wrt ((x / 10) % 10))) mk := okC_fu hC (by omega)
  refine lv_aload_n hx hb d_ST_writeAddress_47 rfl (lv_at hl 1 rfl) ?_
  refine lv_iload_n hx hb d_ST_writeAddress_48 rfl (lv_at hl 2 rfl) ?_
  refine lv_iload_n hx hb d_ST_writeAddress_49 rfl (lv_at hl 3 rfl) ?_
  refine cx_bipush hx hb d_ST_writeAddress_50 rfl ?_
  refine cx_irem hx hb d_ST_writeAddress_52 (by omega) (by omega) ?_
  refine cx_cI (ws2 := fun _ => sW T q n (fu (fu ch (z - 2) (wrt (x / 100 % 10) + 16 * (x / 1000 % 4))) (z - 1) (wrt ((x / 10) % 10))) mk) (cx_rN (rest := [.int (iI (z)), .ref (q 1)]) (As := [.int (iI (x % 10))]) hx hb hml hown hT hK hN hP hD hl.1 (show (Jvm.Cond.methodLinkNest "CharMachine$Store" (55 : Nat) ({ cls := "CharMachine", name := "written", desc := "(I)I" } : Jvm.MethodName) "CharMachine") ∈ nwL by decide +kernel) k_CM_written (c_CM_written l D T H.size (x % 10) (by omega)) ⟨by decide, by decide⟩ ⟨rfl, rfl⟩ [] (by decide) rfl rfl rfl (Nat.le_of_ble_eq_true rfl) ⟨Nat.zero_le _, Nat.zero_le _⟩ d_ST_writeAddress_53) hP hD hS hA [] [0, 1] [0, 1] rfl (wr := [(q 1, .inr (3, [.ref (q 2)])), (q 2, .inl (T 0, n, .inl (fun jj : Nat => (ceF (fu (fu ch (z - 2) (wrt (x / 100 % 10) + 16 * (x / 1000 % 4))) (z - 1) (wrt ((x / 10) % 10))) mk) (jj : Int))))]) rfl (by decide) (by decide) (fun _ => rfl) (by decide) (fun r u_ H locs hq53 hP hD hS => ?_)
  subst hq53
  refine lv_iload_n hx hb d_ST_writeAddress_56 rfl (lv_at hl 0 rfl) ?_
  refine cx_iconst hx hb d_ST_writeAddress_57 ?_
  refine cx_idiv hx hb d_ST_writeAddress_58 (by omega) (by omega) ?_
  refine cx_bipush hx hb d_ST_writeAddress_59 rfl ?_
  refine cx_imul hx hb d_ST_writeAddress_61 ?_
  refine lv_ior hx hb d_ST_writeAddress_62 ?_
  refine cx_eq (bt_zd (by omega) (by omega)) ?_
  refine cx_cV (ws2 := fun _ => sW T q n (fu (fu (fu ch (z - 2) (wrt (x / 100 % 10) + 16 * (x / 1000 % 4))) (z - 1) (wrt ((x / 10) % 10))) (z) (wrt (x % 10) + 16 * (x / 1000 / 4))) mk) (cx_rV (q0 := 0) (ci := 3) (rest := []) (As := [.int (iI (z)), .int (iI (wrt (x % 10) + 16 * (x / 1000 / 4)))]) hx hb hml hown hT hK hN hP hD hl.1 tw_398 k_ST_write (c_ST_write l D T H.size q n (fu (fu ch (z - 2) (wrt (x / 100 % 10) + 16 * (x / 1000 % 4))) (z - 1) (wrt ((x / 10) % 10))) mk hn hC z (by omega) (wrt (x % 10) + 16 * (x / 1000 / 4)) (by omega)) ⟨by decide, by decide⟩ ⟨rfl, rfl⟩ [0, 1] (by decide) rfl rfl rfl rfl rfl (Nat.le_of_ble_eq_true rfl) ⟨Nat.zero_le _, Nat.zero_le _⟩ d_ST_writeAddress_63) hP hD hS hA [0, 1] [] [0, 1] rfl (wr := []) rfl (by decide) (by decide) (fun _ => rfl) (by decide) (fun u_ H locs hq63 hP hD hS => ?_)
  have hC : okC (fu (fu (fu ch (z - 2) (wrt (x / 100 % 10) + 16 * (x / 1000 % 4))) (z - 1) (wrt ((x / 10) % 10))) (z) (wrt (x % 10) + 16 * (x / 1000 / 4))) mk := okC_fu hC (by omega)
  exact hret () trivial hP hD hS d_ST_writeAddress_66

set_option maxHeartbeats 4000000 in
set_option maxRecDepth 100000 in
theorem c_ST_markCount (l : Launch) (D : va_G) (T : Nat → ClassId) (sz : Nat) (q : Nat → Nat) (n : Nat) (ch mk : Int → Int) (hn : 400 ≤ n ∧ n ≤ 2000) (hC : okC ch mk) : MI l y_ST_markCount (wY y_ST_markCount b_ST_markCount 3 (some .int)) (rmK 1) D vwCl (tyL T) nwL sz [.ref (q 1)] (sW T q n ch mk) (fun r (_ : Unit) => r = iI (cnt mk n)) (fun _ => sW T q n ch mk) := by
  refine cx_inI (by decide) rfl (Nat.le_of_ble_eq_true rfl) ?_
  intro p e s m below meth cd ls A Q hx hb hml hT hown hret hP hK hD hN hS hA hl
  have hown : s.vm.findClass R_ST = some m.cls := hown
  have hl : lv_has ls 3 [(0, .ref (q 1))] := hl
  refine cx_iconst hx hb d_ST_markCount_0 ?_
  refine lv_istore_n (lv' := [(1, .int (iI (0))), (0, .ref (q 1))]) hx hb d_ST_markCount_1 rfl hl (by decide) rfl (fun ls hl => ?_)
  refine cx_iconst hx hb d_ST_markCount_2 ?_
  refine lv_istore_n (lv' := [(2, .int (iI (0))), (1, .int (iI (0))), (0, .ref (q 1))]) hx hb d_ST_markCount_3 rfl hl (by decide) rfl (fun ls hl => ?_)
  have L1 : ∀ (k_ : Nat) (j : Int) (v : Int) (H : Heap) (locs : List Loc) (ls : Array Slot), (0 ≤ j ∧ j ≤ n ∧ n - j < k_) → (v = cnt mk j.toNat) → va_P D vwCl (sW T q n ch mk) H → va_D A (sW T q n ch mk) → va_S A s.heap H locs → lv_has ls 3 [(2, .int (iI (j))), (1, .int (iI (v))), (0, .ref (q 1))] → W p l e (rmK 1) s m ([.ref (q 1)] : List Value).toArray below meth cd H locs 0 0 Q (F0 m 4 ls []) := by
    intro k_
    induction k_ with
    | zero => intro j v H locs ls hj hf _ _ _ _; exact absurd hj (by omega)
    | succ k_ ih1 =>
      intro j v H locs ls hj hf hP hD hS hl
      refine lv_iload_n hx hb d_ST_markCount_4 rfl (lv_at hl 0 rfl) ?_
      refine lv_aload_n hx hb d_ST_markCount_5 rfl (lv_at hl 2 rfl) ?_
      refine va_get (D := D) (ci := 3) (v := .ref (q 2)) (C := R_ST) (T := T_ST) (N := 1) hx hb hT lays_ST hown hK hP 0 rfl rfl 0 (by decide) (hT _ tw_31) (fun _ h9 => h9) rfl d_ST_markCount_6 ?_
      refine va_alen (v := iI ((n : Nat) : Int)) hx hb hK hP 1 0 rfl rfl (iI_nI n).symm d_ST_markCount_9 ?_
      refine cx_icmp_ge (tgt := 30) hx hb d_ST_markCount_10 rfl (by omega) (by omega) (fun h10 => ?_) (fun h10 => ?_)
      · refine lv_iload_n hx hb d_ST_markCount_30 rfl (lv_at hl 1 rfl) ?_
        exact hret () (by rw [hf, show j.toNat = n by omega]) hP hD hS d_ST_markCount_31
      · refine lv_aload_n hx hb d_ST_markCount_13 rfl (lv_at hl 2 rfl) ?_
        refine lv_iload_n hx hb d_ST_markCount_14 rfl (lv_at hl 0 rfl) ?_
        refine cx_cI (ws2 := fun _ => sW T q n ch mk) (cx_rV (q0 := 0) (ci := 3) (rest := []) (As := [.int (iI (j))]) hx hb hml hown hT hK hN hP hD hl.1 tw_192 k_ST_hasMark (c_ST_hasMark l D T H.size q n ch mk hn hC j (by omega)) ⟨by decide, by decide⟩ ⟨rfl, rfl⟩ [0, 1] (by decide) rfl rfl rfl rfl rfl (Nat.le_of_ble_eq_true rfl) ⟨Nat.zero_le _, Nat.zero_le _⟩ d_ST_markCount_15) hP hD hS hA [0, 1] [] [0, 1] rfl (wr := []) rfl (by decide) (by decide) (fun _ => rfl) (by decide) (fun r u_ H locs hq15 hP hD hS => ?_)
        rcases hq15 with ⟨rfl, h15⟩ | ⟨rfl, h15⟩
        · refine cx_if_eq (tgt := 24) hx hb d_ST_markCount_18 rfl (by omega) (fun h0 => absurd h0 (by decide)) (fun _ => ?_)
          refine cx_iinc (k := 1) (lv' := [(1, .int (iI (v + 1))), (2, .int (iI (j))), (0, .ref (q 1))]) hx hb d_ST_markCount_21 hl rfl (by decide) rfl (fun ls hl => ?_)
          refine cx_iinc (k := 1) (lv' := [(2, .int (iI (j + 1))), (1, .int (iI (v + 1))), (0, .ref (q 1))]) hx hb d_ST_markCount_24 hl rfl (by decide) rfl (fun ls hl => ?_)
          refine lv_goto (tgt := 4) hx hb d_ST_markCount_27 rfl ?_
          exact ih1 (j + 1) (v + 1) _ _ _ (by omega) (by rw [cnt_step (by omega), hf, h15]; first | done | simp) hP hD hS (lv_sub hl [0, 1, 2] rfl)
        · refine cx_if_eq (tgt := 24) hx hb d_ST_markCount_18 rfl (by omega) (fun _ => ?_) (fun h0 => absurd h0 (by decide))
          refine cx_iinc (k := 0) (lv' := [(2, .int (iI (j + 1))), (1, .int (iI (v))), (0, .ref (q 1))]) hx hb d_ST_markCount_24 hl rfl (by decide) rfl (fun ls hl => ?_)
          refine lv_goto (tgt := 4) hx hb d_ST_markCount_27 rfl ?_
          exact ih1 (j + 1) v _ _ _ (by omega) (by rw [cnt_step (by omega), hf, h15]; first | done | simp) hP hD hS (lv_sub hl [0, 1, 2] rfl)
  exact L1 2001 0 0 _ _ _ (by omega) rfl hP hD hS (lv_sub hl [0, 1, 2] rfl)

set_option maxHeartbeats 4000000 in
set_option maxRecDepth 100000 in
theorem c_ST_copySpan (l : Launch) (D : va_G) (T : Nat → ClassId) (sz : Nat) (q : Nat → Nat) (n : Nat) (ch mk : Int → Int) (hn : 400 ≤ n ∧ n ≤ 2000) (a b k : Int) (h_a : 0 ≤ a - k + 1 ∧ a < n) (h_b : 0 ≤ b - k + 1 ∧ b < n) (h_k : 1 ≤ k ∧ k ≤ 2000) : MV l y_ST_copySpan (wY y_ST_copySpan b_ST_copySpan 4 none) (rmK 1) D vwCl (tyL T) nwL sz [.ref (q 1), .int (iI (a)), .int (iI (b)), .int (iI (k))] (sW T q n ch mk) (fun (_ : Unit) => True) (fun _ => sW T q n (cpy ch (a - k + 1) (b - k + 1) k) (cpy mk (a - k + 1) (b - k + 1) k)) := by
  refine cx_inV (by decide) rfl (Nat.le_of_ble_eq_true rfl) ?_
  intro p e s m below meth cd ls A Q hx hb hml hT hown hret hP hK hD hN hS hA hl
  have hown : s.vm.findClass R_ST = some m.cls := hown
  have hl : lv_has ls 4 [(0, .ref (q 1)), (1, .int (iI (a))), (2, .int (iI (b))), (3, .int (iI (k)))] := hl
  refine lv_aload_n hx hb d_ST_copySpan_0 rfl (lv_at hl 0 rfl) ?_
  refine va_get (D := D) (ci := 3) (v := .ref (q 2)) (C := R_ST) (T := T_ST) (N := 1) hx hb hT lays_ST hown hK hP 0 rfl rfl 0 (by decide) (hT _ tw_31) (fun _ h9 => h9) rfl d_ST_copySpan_1 ?_
  refine lv_iload_n hx hb d_ST_copySpan_4 rfl (lv_at hl 1 rfl) ?_
  refine lv_iload_n hx hb d_ST_copySpan_5 rfl (lv_at hl 3 rfl) ?_
  refine cx_isub hx hb d_ST_copySpan_6 ?_
  refine cx_iconst hx hb d_ST_copySpan_7 ?_
  refine cx_iadd hx hb d_ST_copySpan_8 ?_
  refine lv_aload_n hx hb d_ST_copySpan_9 rfl (lv_at hl 0 rfl) ?_
  refine va_get (D := D) (ci := 3) (v := .ref (q 2)) (C := R_ST) (T := T_ST) (N := 1) hx hb hT lays_ST hown hK hP 0 rfl rfl 0 (by decide) (hT _ tw_31) (fun _ h9 => h9) rfl d_ST_copySpan_10 ?_
  refine lv_iload_n hx hb d_ST_copySpan_13 rfl (lv_at hl 2 rfl) ?_
  refine lv_iload_n hx hb d_ST_copySpan_14 rfl (lv_at hl 3 rfl) ?_
  refine cx_isub hx hb d_ST_copySpan_15 ?_
  refine cx_iconst hx hb d_ST_copySpan_16 ?_
  refine cx_iadd hx hb d_ST_copySpan_17 ?_
  refine lv_iload_n hx hb d_ST_copySpan_18 rfl (lv_at hl 3 rfl) ?_
  refine cx_copy hx hb (hml.trans hl.1.symm) hown hT tw_440 hK hP hD hS 1 1 0 0 rfl rfl rfl rfl (by omega) (by omega) (by omega) (by omega) (by omega) (g2 := ceF (cpy ch (a - k + 1) (b - k + 1) k) (cpy mk (a - k + 1) (b - k + 1) k)) (ceF_cpy (by omega) (by omega) (by omega)) (by decide) (Nat.le_of_ble_eq_true rfl) d_ST_copySpan_19 (fun H locs hP hD hS => ?_)
  have hP : va_P D vwCl (sW T q n (cpy ch (a - k + 1) (b - k + 1) k) (cpy mk (a - k + 1) (b - k + 1) k)) H := hP
  have hD : va_D A (sW T q n (cpy ch (a - k + 1) (b - k + 1) k) (cpy mk (a - k + 1) (b - k + 1) k)) := hD
  exact hret () trivial hP hD hS d_ST_copySpan_22
end
section
/-! Piles: rows of one width -/
abbrev iF (f : Int → Int) : Int → Int32 := fun z => iI (f z)
abbrev plW (T : Nat → ClassId) (a0 a1 : Nat) (lim wid : Int) (len : Nat) (f : Int → Int) (fil : Int) : va_W := [(a0, .inr (1, [.int (iI lim), .int (iI wid), .ref a1, .int (iI fil)])), (a1, .inl (T 0, len, .inl (fun j : Nat => iF f (j : Int))))]
abbrev psW (T : Nat → ClassId) (a0 a1 : Nat) (lim wid : Int) (len : Nat) (f : Int → Int) (fil : Int) (q : Nat → Nat) (n : Nat) (ch mk : Int → Int) : va_W := [(a0, .inr (1, [.int (iI lim), .int (iI wid), .ref a1, .int (iI fil)])), (a1, .inl (T 0, len, .inl (fun j : Nat => iF f (j : Int)))), (q 1, .inr (3, [.ref (q 2)])), (q 2, .inl (T 0, n, .inl (fun j : Nat => ceF ch mk (j : Int))))]
theorem iF_put {f : Int → Int} {z v : Int} (j : Int) : fu (iF f) z (iI v) j = iF (fu f z v) j := by
  unfold fu iF
  by_cases h : j = z
  · simp [h]
  · simp [h]
/-- a span from lo on, k places, written anew -/
def spa (f : Int → Int) (lo k : Int) (F : Int → Int) : Int → Int := fun j => if lo ≤ j ∧ j < lo + k then F (j - lo) else f j
theorem spa_0 (f : Int → Int) (lo : Int) (F : Int → Int) : spa f lo 0 F = f := by
  funext j
  unfold spa
  rw [if_neg (by omega)]
theorem spa_step {f F : Int → Int} {lo k k2 z v : Int} (hk : 0 ≤ k) (hz : z = lo + k) (hk2 : k2 = k + 1) (h : F k = v) : fu (spa f lo k F) z v = spa f lo k2 F := by
  subst hz hk2
  funext j
  unfold fu spa
  by_cases hj : j = lo + k
  · rw [if_pos hj, if_pos (by omega), hj, show lo + k - lo = k by omega, h]
  · rw [if_neg hj]
    by_cases hq : lo ≤ j ∧ j < lo + k
    · rw [if_pos hq, if_pos (by omega)]
    · rw [if_neg hq, if_neg (by omega)]
theorem spa_out {f F : Int → Int} {lo k j : Int} (h : j < lo ∨ lo + k ≤ j) : spa f lo k F j = f j := by
  unfold spa
  rw [if_neg (by omega)]
theorem spa_in {f F : Int → Int} {lo k j z : Int} (h : 0 ≤ j ∧ j < k) (hz : z = lo + j) : spa f lo k F z = F j := by
  subst hz
  unfold spa
  rw [if_pos (by omega), show lo + j - lo = j by omega]
set_option maxHeartbeats 4000000 in
set_option maxRecDepth 100000 in
theorem c_PI_filled (l : Launch) (D : va_G) (T : Nat → ClassId) (sz : Nat) (a0 a1 : Nat) (lim wid : Int) (len : Nat) (f : Int → Int) (fil : Int) (hp : (0 ≤ lim ∧ lim ≤ 40) ∧ (0 ≤ wid ∧ wid ≤ 132) ∧ len ≤ 10000 ∧ (0 ≤ fil ∧ fil ≤ lim)) : MI l y_PI_filled (wY y_PI_filled b_PI_filled 1 (some .int)) (rmK 0) D vwCl (tyL T) nwL sz [.ref (a0)] (plW T a0 a1 lim wid len f fil) (fun r (_ : Unit) => r = iI fil) (fun _ => plW T a0 a1 lim wid len f fil) := by
  refine cx_inI (by decide) rfl (Nat.le_of_ble_eq_true rfl) ?_
  intro p e s m below meth cd ls A Q hx hb hml hT hown hret hP hK hD hN hS hA hl
  have hown : s.vm.findClass R_PI = some m.cls := hown
  have hl : lv_has ls 1 [(0, .ref (a0))] := hl
  refine lv_aload_n hx hb d_PI_filled_0 rfl (lv_at hl 0 rfl) ?_
  refine va_get (D := D) (ci := 1) (v := .int (iI (fil))) (C := R_PI) (T := T_PI) (N := 4) hx hb hT lays_PI hown hK hP 0 rfl rfl 3 (by decide) (hT _ tw_45) (fun _ h9 => h9) rfl d_PI_filled_1 ?_
  exact hret () rfl hP hD hS d_PI_filled_4

set_option maxHeartbeats 4000000 in
set_option maxRecDepth 100000 in
theorem c_PI_isFull (l : Launch) (D : va_G) (T : Nat → ClassId) (sz : Nat) (a0 a1 : Nat) (lim wid : Int) (len : Nat) (f : Int → Int) (fil : Int) (hp : (0 ≤ lim ∧ lim ≤ 40) ∧ (0 ≤ wid ∧ wid ≤ 132) ∧ len ≤ 10000 ∧ (0 ≤ fil ∧ fil ≤ lim)) : MI l y_PI_isFull (wY y_PI_isFull b_PI_isFull 1 (some .boolean)) (rmK 0) D vwCl (tyL T) nwL sz [.ref (a0)] (plW T a0 a1 lim wid len f fil) (fun r (_ : Unit) => (r = iI 1 ∧ (lim ≤ fil)) ∨ (r = iI 0 ∧ (fil < lim))) (fun _ => plW T a0 a1 lim wid len f fil) := by
  refine cx_inZ (by decide) rfl (Nat.le_of_ble_eq_true rfl) ?_
  intro p e s m below meth cd ls A Q hx hb hml hT hown hret hP hK hD hN hS hA hl
  have hown : s.vm.findClass R_PI = some m.cls := hown
  have hl : lv_has ls 1 [(0, .ref (a0))] := hl
  refine lv_aload_n hx hb d_PI_isFull_0 rfl (lv_at hl 0 rfl) ?_
  refine va_get (D := D) (ci := 1) (v := .int (iI (fil))) (C := R_PI) (T := T_PI) (N := 4) hx hb hT lays_PI hown hK hP 0 rfl rfl 3 (by decide) (hT _ tw_45) (fun _ h9 => h9) rfl d_PI_isFull_1 ?_
  refine lv_aload_n hx hb d_PI_isFull_4 rfl (lv_at hl 0 rfl) ?_
  refine va_get (D := D) (ci := 1) (v := .int (iI (lim))) (C := R_PI) (T := T_PI) (N := 4) hx hb hT lays_PI hown hK hP 0 rfl rfl 0 (by decide) (hT _ tw_42) (fun _ h9 => h9) rfl d_PI_isFull_5 ?_
  refine cx_icmp_lt (tgt := 15) hx hb d_PI_isFull_8 rfl (by omega) (by omega) (fun h8 => ?_) (fun h8 => ?_)
  · refine cx_iconst hx hb d_PI_isFull_15 ?_
    exact hret () (Or.inl rfl) (Or.inr ⟨rfl, by omega⟩) hP hD hS d_PI_isFull_16
  · refine cx_iconst hx hb d_PI_isFull_11 ?_
    refine lv_goto (tgt := 16) hx hb d_PI_isFull_12 rfl ?_
    exact hret () (Or.inr rfl) (Or.inl ⟨rfl, by omega⟩) hP hD hS d_PI_isFull_16

set_option maxHeartbeats 4000000 in
set_option maxRecDepth 100000 in
theorem c_PI_holds (l : Launch) (D : va_G) (T : Nat → ClassId) (sz : Nat) (a0 a1 : Nat) (lim wid : Int) (len : Nat) (f : Int → Int) (fil : Int) (hp : (0 ≤ lim ∧ lim ≤ 40) ∧ (0 ≤ wid ∧ wid ≤ 132) ∧ len ≤ 10000 ∧ (0 ≤ fil ∧ fil ≤ lim)) (r c : Int) (hr : -2147483648 ≤ r ∧ r < 2147483648) (hc : -2147483648 ≤ c ∧ c < 2147483648) : MI l y_PI_holds (wY y_PI_holds b_PI_holds 3 (some .boolean)) (rmK 0) D vwCl (tyL T) nwL sz [.ref (a0), .int (iI (r)), .int (iI (c))] (plW T a0 a1 lim wid len f fil) (fun v (_ : Unit) => (v = iI 1 ∧ ((0 ≤ r ∧ r < fil) ∧ (1 ≤ c ∧ c ≤ wid))) ∨ (v = iI 0 ∧ (¬ ((0 ≤ r ∧ r < fil) ∧ (1 ≤ c ∧ c ≤ wid))))) (fun _ => plW T a0 a1 lim wid len f fil) := by
  refine cx_inZ (by decide) rfl (Nat.le_of_ble_eq_true rfl) ?_
  intro p e s m below meth cd ls A Q hx hb hml hT hown hret hP hK hD hN hS hA hl
  have hown : s.vm.findClass R_PI = some m.cls := hown
  have hl : lv_has ls 3 [(0, .ref (a0)), (1, .int (iI (r))), (2, .int (iI (c)))] := hl
  refine lv_iload_n hx hb d_PI_holds_0 rfl (lv_at hl 1 rfl) ?_
  refine cx_if_lt (tgt := 29) hx hb d_PI_holds_1 rfl (by omega) (fun h1 => ?_) (fun h1 => ?_)
  · refine cx_iconst hx hb d_PI_holds_29 ?_
    exact hret () (Or.inl rfl) (Or.inr ⟨rfl, by omega⟩) hP hD hS d_PI_holds_30
  · refine lv_iload_n hx hb d_PI_holds_4 rfl (lv_at hl 1 rfl) ?_
    refine lv_aload_n hx hb d_PI_holds_5 rfl (lv_at hl 0 rfl) ?_
    refine va_get (D := D) (ci := 1) (v := .int (iI (fil))) (C := R_PI) (T := T_PI) (N := 4) hx hb hT lays_PI hown hK hP 0 rfl rfl 3 (by decide) (hT _ tw_45) (fun _ h9 => h9) rfl d_PI_holds_6 ?_
    refine cx_icmp_ge (tgt := 29) hx hb d_PI_holds_9 rfl (by omega) (by omega) (fun h9 => ?_) (fun h9 => ?_)
    · refine cx_iconst hx hb d_PI_holds_29 ?_
      exact hret () (Or.inl rfl) (Or.inr ⟨rfl, by omega⟩) hP hD hS d_PI_holds_30
    · refine lv_iload_n hx hb d_PI_holds_12 rfl (lv_at hl 2 rfl) ?_
      refine cx_iconst hx hb d_PI_holds_13 ?_
      refine cx_icmp_lt (tgt := 29) hx hb d_PI_holds_14 rfl (by omega) (by omega) (fun h14 => ?_) (fun h14 => ?_)
      · refine cx_iconst hx hb d_PI_holds_29 ?_
        exact hret () (Or.inl rfl) (Or.inr ⟨rfl, by omega⟩) hP hD hS d_PI_holds_30
      · refine lv_iload_n hx hb d_PI_holds_17 rfl (lv_at hl 2 rfl) ?_
        refine lv_aload_n hx hb d_PI_holds_18 rfl (lv_at hl 0 rfl) ?_
        refine va_get (D := D) (ci := 1) (v := .int (iI (wid))) (C := R_PI) (T := T_PI) (N := 4) hx hb hT lays_PI hown hK hP 0 rfl rfl 1 (by decide) (hT _ tw_43) (fun _ h9 => h9) rfl d_PI_holds_19 ?_
        refine cx_icmp_gt (tgt := 29) hx hb d_PI_holds_22 rfl (by omega) (by omega) (fun h22 => ?_) (fun h22 => ?_)
        · refine cx_iconst hx hb d_PI_holds_29 ?_
          exact hret () (Or.inl rfl) (Or.inr ⟨rfl, by omega⟩) hP hD hS d_PI_holds_30
        · refine cx_iconst hx hb d_PI_holds_25 ?_
          refine lv_goto (tgt := 30) hx hb d_PI_holds_26 rfl ?_
          exact hret () (Or.inr rfl) (Or.inl ⟨rfl, by omega⟩) hP hD hS d_PI_holds_30

set_option maxHeartbeats 4000000 in
set_option maxRecDepth 100000 in
theorem c_PI_character (l : Launch) (D : va_G) (T : Nat → ClassId) (sz : Nat) (a0 a1 : Nat) (lim wid : Int) (len : Nat) (f : Int → Int) (fil : Int) (hp : (0 ≤ lim ∧ lim ≤ 40) ∧ (0 ≤ wid ∧ wid ≤ 132) ∧ len ≤ 10000 ∧ (0 ≤ fil ∧ fil ≤ lim)) (r c : Int) (hi : 0 ≤ r * wid + c - 1 ∧ r * wid + c - 1 < len) : MI l y_PI_character (wY y_PI_character b_PI_character 3 (some .int)) (rmK 0) D vwCl (tyL T) nwL sz [.ref (a0), .int (iI (r)), .int (iI (c))] (plW T a0 a1 lim wid len f fil) (fun v (_ : Unit) => v = iI (f (r * wid + c - 1))) (fun _ => plW T a0 a1 lim wid len f fil) := by
  refine cx_inI (by decide) rfl (Nat.le_of_ble_eq_true rfl) ?_
  intro p e s m below meth cd ls A Q hx hb hml hT hown hret hP hK hD hN hS hA hl
  have hown : s.vm.findClass R_PI = some m.cls := hown
  have hl : lv_has ls 3 [(0, .ref (a0)), (1, .int (iI (r))), (2, .int (iI (c)))] := hl
  refine lv_aload_n hx hb d_PI_character_0 rfl (lv_at hl 0 rfl) ?_
  refine va_get (D := D) (ci := 1) (v := .ref (a1)) (C := R_PI) (T := T_PI) (N := 4) hx hb hT lays_PI hown hK hP 0 rfl rfl 2 (by decide) (hT _ tw_44) (fun _ h9 => h9) rfl d_PI_character_1 ?_
  refine lv_iload_n hx hb d_PI_character_4 rfl (lv_at hl 1 rfl) ?_
  refine lv_aload_n hx hb d_PI_character_5 rfl (lv_at hl 0 rfl) ?_
  refine va_get (D := D) (ci := 1) (v := .int (iI (wid))) (C := R_PI) (T := T_PI) (N := 4) hx hb hT lays_PI hown hK hP 0 rfl rfl 1 (by decide) (hT _ tw_43) (fun _ h9 => h9) rfl d_PI_character_6 ?_
  refine cx_imul hx hb d_PI_character_9 ?_
  refine lv_iload_n hx hb d_PI_character_10 rfl (lv_at hl 2 rfl) ?_
  refine cx_iadd hx hb d_PI_character_11 ?_
  refine cx_iconst hx hb d_PI_character_12 ?_
  refine cx_isub hx hb d_PI_character_13 ?_
  refine cx_iald (g := iF f) hx hb hK hP 1 0 rfl rfl (by omega) (by omega) d_PI_character_14 ?_
  exact hret () rfl hP hD hS d_PI_character_15

set_option maxHeartbeats 4000000 in
set_option maxRecDepth 100000 in
theorem c_PI_write (l : Launch) (D : va_G) (T : Nat → ClassId) (sz : Nat) (a0 a1 : Nat) (lim wid : Int) (len : Nat) (f : Int → Int) (fil : Int) (hp : (0 ≤ lim ∧ lim ≤ 40) ∧ (0 ≤ wid ∧ wid ≤ 132) ∧ len ≤ 10000 ∧ (0 ≤ fil ∧ fil ≤ lim)) (c v : Int) (hi : 0 ≤ fil * wid + c - 1 ∧ fil * wid + c - 1 < len) : MV l y_PI_write (wY y_PI_write b_PI_write 3 none) (rmK 0) D vwCl (tyL T) nwL sz [.ref (a0), .int (iI (c)), .int (iI (v))] (plW T a0 a1 lim wid len f fil) (fun (_ : Unit) => True) (fun _ => plW T a0 a1 lim wid len (fu f (fil * wid + c - 1) v) fil) := by
  refine cx_inV (by decide) rfl (Nat.le_of_ble_eq_true rfl) ?_
  intro p e s m below meth cd ls A Q hx hb hml hT hown hret hP hK hD hN hS hA hl
  have hown : s.vm.findClass R_PI = some m.cls := hown
  have hl : lv_has ls 3 [(0, .ref (a0)), (1, .int (iI (c))), (2, .int (iI (v)))] := hl
  refine lv_aload_n hx hb d_PI_write_0 rfl (lv_at hl 0 rfl) ?_
  refine va_get (D := D) (ci := 1) (v := .ref (a1)) (C := R_PI) (T := T_PI) (N := 4) hx hb hT lays_PI hown hK hP 0 rfl rfl 2 (by decide) (hT _ tw_44) (fun _ h9 => h9) rfl d_PI_write_1 ?_
  refine lv_aload_n hx hb d_PI_write_4 rfl (lv_at hl 0 rfl) ?_
  refine va_get (D := D) (ci := 1) (v := .int (iI (fil))) (C := R_PI) (T := T_PI) (N := 4) hx hb hT lays_PI hown hK hP 0 rfl rfl 3 (by decide) (hT _ tw_45) (fun _ h9 => h9) rfl d_PI_write_5 ?_
  refine lv_aload_n hx hb d_PI_write_8 rfl (lv_at hl 0 rfl) ?_
  refine va_get (D := D) (ci := 1) (v := .int (iI (wid))) (C := R_PI) (T := T_PI) (N := 4) hx hb hT lays_PI hown hK hP 0 rfl rfl 1 (by decide) (hT _ tw_43) (fun _ h9 => h9) rfl d_PI_write_9 ?_
  refine cx_imul hx hb d_PI_write_12 ?_
  refine lv_iload_n hx hb d_PI_write_13 rfl (lv_at hl 1 rfl) ?_
  refine cx_iadd hx hb d_PI_write_14 ?_
  refine cx_iconst hx hb d_PI_write_15 ?_
  refine cx_isub hx hb d_PI_write_16 ?_
  refine lv_iload_n hx hb d_PI_write_17 rfl (lv_at hl 2 rfl) ?_
  refine cx_iast (g := iF f) (g' := iF (fu f (fil * wid + c - 1) v)) hx hb hK hP hD hS 1 0 rfl rfl (by omega) (by omega) (fun j => iF_put j) d_PI_write_18 (fun H locs hP hD hS => ?_)
  have hP : va_P D vwCl (plW T a0 a1 lim wid len (fu f (fil * wid + c - 1) v) fil) H := hP
  have hD : va_D A (plW T a0 a1 lim wid len (fu f (fil * wid + c - 1) v) fil) := hD
  exact hret () trivial hP hD hS d_PI_write_19

set_option maxHeartbeats 4000000 in
set_option maxRecDepth 100000 in
theorem c_PI_close (l : Launch) (D : va_G) (T : Nat → ClassId) (sz : Nat) (a0 a1 : Nat) (lim wid : Int) (len : Nat) (f : Int → Int) (fil : Int) (hp : (0 ≤ lim ∧ lim ≤ 40) ∧ (0 ≤ wid ∧ wid ≤ 132) ∧ len ≤ 10000 ∧ (0 ≤ fil ∧ fil ≤ lim)) : MV l y_PI_close (wY y_PI_close b_PI_close 1 none) (rmK 0) D vwCl (tyL T) nwL sz [.ref (a0)] (plW T a0 a1 lim wid len f fil) (fun (_ : Unit) => True) (fun _ => plW T a0 a1 lim wid len f (fil + 1)) := by
  refine cx_inV (by decide) rfl (Nat.le_of_ble_eq_true rfl) ?_
  intro p e s m below meth cd ls A Q hx hb hml hT hown hret hP hK hD hN hS hA hl
  have hown : s.vm.findClass R_PI = some m.cls := hown
  have hl : lv_has ls 1 [(0, .ref (a0))] := hl
  refine lv_aload_n hx hb d_PI_close_0 rfl (lv_at hl 0 rfl) ?_
  refine lv_dup hx hb d_PI_close_1 rfl ?_
  refine va_get (D := D) (ci := 1) (v := .int (iI (fil))) (C := R_PI) (T := T_PI) (N := 4) hx hb hT lays_PI hown hK hP 0 rfl rfl 3 (by decide) (hT _ tw_45) (fun _ h9 => h9) rfl d_PI_close_2 ?_
  refine cx_iconst hx hb d_PI_close_5 ?_
  refine cx_iadd hx hb d_PI_close_6 ?_
  refine va_put (D := D) (ci := 1) (v := .int (iI (fil + 1))) (ty := .int) (C := R_PI) (T := T_PI) (N := 4) hx hb hT lays_PI t_PI t_PI_ok n_PI hown hK hP hD hS 0 rfl rfl 3 (by decide) (hT _ tw_45) (fun _ h9 => h9) rfl (by decide +kernel) rfl rfl (Nat.le_of_ble_eq_true rfl) d_PI_close_7 (fun H locs hP hD hS => ?_)
  have hP : va_P D vwCl (plW T a0 a1 lim wid len f (fil + 1)) H := hP
  have hD : va_D A (plW T a0 a1 lim wid len f (fil + 1)) := hD
  exact hret () trivial hP hD hS d_PI_close_10

set_option maxHeartbeats 4000000 in
set_option maxRecDepth 100000 in
theorem c_PI_copy (l : Launch) (D : va_G) (T : Nat → ClassId) (sz : Nat) (a0 a1 : Nat) (lim wid : Int) (len : Nat) (f : Int → Int) (fil : Int) (hp : (0 ≤ lim ∧ lim ≤ 40) ∧ (0 ≤ wid ∧ wid ≤ 132) ∧ len ≤ 10000 ∧ (0 ≤ fil ∧ fil ≤ lim)) (q : Nat → Nat) (n : Nat) (ch mk : Int → Int) (hn : 400 ≤ n ∧ n ≤ 2000) (hC : okC ch mk) (x : Int) (hi : 0 ≤ fil * wid ∧ fil * wid + wid ≤ len) (hx1 : 0 ≤ x ∧ x + wid ≤ n) (hfl : fil < lim) : MV l y_PI_copy (wY y_PI_copy b_PI_copy 4 none) (rmK 1) D vwCl (tyL T) nwL sz [.ref (a0), .ref (q 1), .int (iI (x))] (psW T a0 a1 lim wid len f fil q n ch mk) (fun (_ : Unit) => True) (fun _ => psW T a0 a1 lim wid len (spa f (fil * wid) (wid) (fun k => ch (x + k))) (fil + 1) q n ch mk) := by
  refine cx_inV (by decide) rfl (Nat.le_of_ble_eq_true rfl) ?_
  intro p e s m below meth cd ls A Q hx hb hml hT hown hret hP hK hD hN hS hA hl
  have hown : s.vm.findClass R_PI = some m.cls := hown
  have hl : lv_has ls 4 [(0, .ref (a0)), (1, .ref (q 1)), (2, .int (iI (x)))] := hl
  refine cx_iconst hx hb d_PI_copy_0 ?_
  refine lv_istore_n (lv' := [(3, .int (iI (1))), (0, .ref (a0)), (1, .ref (q 1)), (2, .int (iI (x)))]) hx hb d_PI_copy_1 rfl hl (by decide) rfl (fun ls hl => ?_)
  have L1 : ∀ (k_ : Nat) (j : Int) (H : Heap) (locs : List Loc) (ls : Array Slot), (1 ≤ j ∧ j ≤ wid + 1 ∧ wid + 1 - j < k_) → va_P D vwCl (psW T a0 a1 lim wid len (spa f (fil * wid) (j - 1) (fun k => ch (x + k))) fil q n ch mk) H → va_D A (psW T a0 a1 lim wid len (spa f (fil * wid) (j - 1) (fun k => ch (x + k))) fil q n ch mk) → va_S A s.heap H locs → lv_has ls 4 [(3, .int (iI (j))), (0, .ref (a0)), (1, .ref (q 1)), (2, .int (iI (x)))] → W p l e (rmK 1) s m ([.ref (a0), .ref (q 1), .int (iI (x))] : List Value).toArray below meth cd H locs 0 0 Q (F0 m 2 ls []) := by
    intro k_
    induction k_ with
    | zero => intro j H locs ls hj _ _ _ _; exact absurd hj (by omega)
    | succ k_ ih1 =>
      intro j H locs ls hj hP hD hS hl
      refine lv_iload_n hx hb d_PI_copy_2 rfl (lv_at hl 0 rfl) ?_
      refine lv_aload_n hx hb d_PI_copy_3 rfl (lv_at hl 1 rfl) ?_
      refine va_get (D := D) (ci := 1) (v := .int (iI (wid))) (C := R_PI) (T := T_PI) (N := 4) hx hb hT lays_PI hown hK hP 0 rfl rfl 1 (by decide) (hT _ tw_43) (fun _ h9 => h9) rfl d_PI_copy_4 ?_
      refine cx_icmp_gt (tgt := 30) hx hb d_PI_copy_7 rfl (by omega) (by omega) (fun h7 => ?_) (fun h7 => ?_)
      · have e9 : j - 1 = wid := by omega
        rw [e9] at hP hD
        refine lv_aload_n hx hb d_PI_copy_30 rfl (lv_at hl 1 rfl) ?_
        refine cx_cV (ws2 := fun _ => psW T a0 a1 lim wid len (spa f (fil * wid) (wid) (fun k => ch (x + k))) (fil + 1) q n ch mk) (cx_rV (q0 := 0) (ci := 1) (rest := []) (As := []) hx hb hml hown hT hK hN hP hD hl.1 tw_535 k_PI_close (c_PI_close l D T H.size a0 a1 lim wid len (spa f (fil * wid) (wid) (fun k => ch (x + k))) fil (by omega) ) ⟨by decide, by decide⟩ ⟨rfl, rfl⟩ [0, 1] (by decide) rfl rfl rfl rfl rfl (Nat.le_of_ble_eq_true rfl) ⟨Nat.zero_le _, Nat.zero_le _⟩ d_PI_copy_31) hP hD hS hA [0, 1] [2, 3] [2, 3, 0, 1] rfl (wr := [(q 1, .inr (3, [.ref (q 2)])), (q 2, .inl (T 0, n, .inl (fun jj : Nat => (ceF ch mk) (jj : Int))))]) rfl (by decide) (by decide) (fun _ => rfl) (by decide) (fun u_ H locs hq31 hP hD hS => ?_)
        exact hret () trivial hP hD hS d_PI_copy_34
      · refine lv_aload_n hx hb d_PI_copy_10 rfl (lv_at hl 1 rfl) ?_
        refine lv_iload_n hx hb d_PI_copy_11 rfl (lv_at hl 0 rfl) ?_
        refine lv_aload_n hx hb d_PI_copy_12 rfl (lv_at hl 2 rfl) ?_
        refine lv_iload_n hx hb d_PI_copy_13 rfl (lv_at hl 3 rfl) ?_
        refine lv_iload_n hx hb d_PI_copy_14 rfl (lv_at hl 0 rfl) ?_
        refine cx_iadd hx hb d_PI_copy_15 ?_
        refine cx_iconst hx hb d_PI_copy_16 ?_
        refine cx_isub hx hb d_PI_copy_17 ?_
        refine cx_cI (ws2 := fun _ => psW T a0 a1 lim wid len (spa f (fil * wid) (j - 1) (fun k => ch (x + k))) fil q n ch mk) (cx_rV (q0 := 2) (ci := 3) (rest := [.int (iI (j)), .ref (a0)]) (As := [.int (iI ((x + j) - 1))]) hx hb hml hown hT hK hN hP hD hl.1 tw_533 k_ST_character (c_ST_character l D T H.size q n ch mk hn hC ((x + j) - 1) (by omega)) ⟨by decide, by decide⟩ ⟨rfl, rfl⟩ [2, 3] (by decide) rfl rfl rfl rfl rfl (Nat.le_of_ble_eq_true rfl) ⟨Nat.zero_le _, Nat.zero_le _⟩ d_PI_copy_18) hP hD hS hA [2, 3] [0, 1] [0, 1, 2, 3] rfl (wr := [(a0, .inr (1, [.int (iI (lim)), .int (iI (wid)), .ref (a1), .int (iI (fil))])), (a1, .inl (T 0, len, .inl (fun jj : Nat => (iF (spa f (fil * wid) (j - 1) (fun k => ch (x + k)))) (jj : Int))))]) rfl (by decide) (by decide) (fun _ => rfl) (by decide) (fun r u_ H locs hq18 hP hD hS => ?_)
        subst hq18
        refine cx_cV (ws2 := fun _ => psW T a0 a1 lim wid len (fu (spa f (fil * wid) (j - 1) (fun k => ch (x + k))) (fil * wid + j - 1) (ch ((x + j) - 1))) fil q n ch mk) (cx_rV (q0 := 0) (ci := 1) (rest := []) (As := [.int (iI (j)), .int (iI (ch ((x + j) - 1)))]) hx hb hml hown hT hK hN hP hD hl.1 tw_534 k_PI_write (c_PI_write l D T H.size a0 a1 lim wid len (spa f (fil * wid) (j - 1) (fun k => ch (x + k))) fil (by omega) j (ch ((x + j) - 1)) (by omega)) ⟨by decide, by decide⟩ ⟨rfl, rfl⟩ [0, 1] (by decide) rfl rfl rfl rfl rfl (Nat.le_of_ble_eq_true rfl) ⟨Nat.zero_le _, Nat.zero_le _⟩ d_PI_copy_21) hP hD hS hA [0, 1] [2, 3] [2, 3, 0, 1] rfl (wr := [(q 1, .inr (3, [.ref (q 2)])), (q 2, .inl (T 0, n, .inl (fun jj : Nat => (ceF ch mk) (jj : Int))))]) rfl (by decide) (by decide) (fun _ => rfl) (by decide) (fun u_ H locs hq21 hP hD hS => ?_)
        refine cx_iinc (k := 0) (lv' := [(3, .int (iI (j + 1))), (0, .ref (a0)), (1, .ref (q 1)), (2, .int (iI (x)))]) hx hb d_PI_copy_24 hl rfl (by decide) rfl (fun ls hl => ?_)
        refine lv_goto (tgt := 2) hx hb d_PI_copy_27 rfl ?_
        rw [spa_step (F := fun k => ch (x + k)) (k2 := j + 1 - 1) (by omega) (by omega) (by omega) (by show ch (x + (j - 1)) = _; congr 1; omega)] at hP hD
        exact ih1 (j + 1) _ _ _ (by omega) hP hD hS (lv_sub hl [0, 1, 2, 3] rfl)
  rw [← spa_0 f (fil * wid) (fun k => ch (x + k))] at hP hD
  rw [show (0 : Int) = 1 - 1 from rfl] at hP hD
  exact L1 200 1 _ _ _ (by omega) hP hD hS (lv_sub hl [0, 1, 2, 3] rfl)
end
section
/-! Arithmetic: digits that were read, and the field at u -/
abbrev arW (T : Nat → ClassId) (q : Nat → Nat) (n : Nat) (d ch mk : Int → Int) : va_W := [(q 10, .inr (0, [.ref (q 1), .ref (q 11)])), (q 11, .inl (T 0, n, .inl (fun j : Nat => iF d (j : Int)))), (q 1, .inr (3, [.ref (q 2)])), (q 2, .inl (T 0, n, .inl (fun j : Nat => ceF ch mk (j : Int))))]
/-- the digits that are read, units first: those of the part, then zeros -/
def rdg (ch : Int → Int) (u part : Int) : Int → Int := fun k => if k < part then vl (ch (u - k)) else 0
theorem rdg_in {ch mk : Int → Int} (hC : okC ch mk) (u part k : Int) : 0 ≤ rdg ch u part k ∧ rdg ch u part k < 10 := by
  unfold rdg
  split
  · exact vl_in (hC.1 _)
  · omega
theorem okC_spn {ch mk : Int → Int} {u k : Int} {F : Int → Int} (h : okC ch mk) (hF : ∀ i, 0 ≤ i → i < k → 0 ≤ F i ∧ F i < 64) : okC (spn ch u k F) mk := ⟨fun j => by
  unfold spn
  split
  · exact hF _ (by omega) (by omega)
  · exact h.1 j, h.2⟩
/-- carries of a sum, units first -/
def car (x y : Int → Int) : Nat → Int
  | 0 => 0
  | k + 1 => (y k + x k + car x y k) / 10
theorem car_step {x y : Int → Int} {j : Int} (h : 0 ≤ j) : car x y (j + 1).toNat = (y j + x j + car x y j.toNat) / 10 := by
  rw [show (j + 1).toNat = j.toNat + 1 by omega, car, Int.toNat_of_nonneg h]
def adF (ch d : Int → Int) (u : Int) : Int → Int := fun k => wrt ((vl (ch (u - k)) + d k + car d (fun i => vl (ch (u - i))) k.toNat) % 10) + (if k = 0 then zn (ch u) else 0)
/-- what is left at a place of a difference, ahead of the borrow from the next; g: from which side -/
def sbR (g : Int) (x y : Int → Int) (v k : Int) : Int := (if g = 0 then y k - x k else x k - y k) - v
def bor (g : Int) (x y : Int → Int) : Nat → Int
  | 0 => 0
  | k + 1 => if sbR g x y (bor g x y k) k < 0 then 1 else 0
theorem bor_step {g : Int} {x y : Int → Int} {j : Int} (h : 0 ≤ j) : bor g x y (j + 1).toNat = if sbR g x y (bor g x y j.toNat) j < 0 then 1 else 0 := by
  rw [show (j + 1).toNat = j.toNat + 1 by omega, bor, Int.toNat_of_nonneg h]
def sbF (ch d : Int → Int) (u g : Int) : Int → Int := fun k => wrt (sbR g d (fun i => vl (ch (u - i))) (bor g d (fun i => vl (ch (u - i))) k.toNat) k + 10 * bor g d (fun i => vl (ch (u - i))) (k + 1).toNat)
/-- x is more than y, by the leftmost place that differs -/
def gtr (x y : Int → Int) : Nat → Int
  | 0 => 0
  | k + 1 => if x k = y k then gtr x y k else if y k < x k then 1 else 0
theorem gtr_step {x y : Int → Int} {j : Int} (h : 0 ≤ j) : gtr x y (j + 1).toNat = if x j = y j then gtr x y j.toNat else if y j < x j then 1 else 0 := by
  rw [show (j + 1).toNat = j.toNat + 1 by omega, gtr, Int.toNat_of_nonneg h]
theorem bt_zn {d c : Int} (hd : 0 ≤ d ∧ d < 16) (hc : 0 ≤ c ∧ c < 64) : iI d ||| iI (zn c) = iI (d + zn c) := by
  unfold zn
  rw [Int.mul_comm]; exact bt_dz hd (by omega)
theorem bt_z0 {d : Int} (hd : 0 ≤ d ∧ d < 16) : iI d ||| iI 0 = iI (d + 0) := bt_dz (z := 0) hd (by omega)
set_option maxHeartbeats 4000000 in
set_option maxRecDepth 100000 in
theorem c_AR_readDigits (l : Launch) (D : va_G) (T : Nat → ClassId) (sz : Nat) (q : Nat → Nat) (n : Nat) (d ch mk : Int → Int) (hn : 400 ≤ n ∧ n ≤ 2000) (hC : okC ch mk) (u part k : Int) (h_u : 0 ≤ u ∧ u < n) (h_p : part ≤ u + 1) (h_p0 : -2147483648 ≤ part) (h_k : 0 ≤ k ∧ k ≤ n) : MV l y_AR_readDigits (wY y_AR_readDigits b_AR_readDigits 5 none) (rmK 1) D vwCl (tyL T) nwL sz [.ref (q 10), .int (iI (u)), .int (iI (part)), .int (iI (k))] (arW T q n d ch mk) (fun (_ : Unit) => True) (fun _ => arW T q n (spa d 0 k (rdg ch u part)) ch mk) := by
  refine cx_inV (by decide) rfl (Nat.le_of_ble_eq_true rfl) ?_
  intro p e s m below meth cd ls A Q hx hb hml hT hown hret hP hK hD hN hS hA hl
  have hown : s.vm.findClass R_AR = some m.cls := hown
  have hl : lv_has ls 5 [(0, .ref (q 10)), (1, .int (iI (u))), (2, .int (iI (part))), (3, .int (iI (k)))] := hl
  refine cx_iconst hx hb d_AR_readDigits_0 ?_
  refine lv_istore (lv' := [(4, .int (iI (0))), (0, .ref (q 10)), (1, .int (iI (u))), (2, .int (iI (part))), (3, .int (iI (k)))]) hx hb d_AR_readDigits_1 hl (by decide) rfl (fun ls hl => ?_)
  have L1 : ∀ (k_ : Nat) (j : Int) (H : Heap) (locs : List Loc) (ls : Array Slot), (0 ≤ j ∧ j ≤ k ∧ k - j < k_) → va_P D vwCl (arW T q n (spa d 0 j (rdg ch u part)) ch mk) H → va_D A (arW T q n (spa d 0 j (rdg ch u part)) ch mk) → va_S A s.heap H locs → lv_has ls 5 [(4, .int (iI (j))), (0, .ref (q 10)), (1, .int (iI (u))), (2, .int (iI (part))), (3, .int (iI (k)))] → W p l e (rmK 1) s m ([.ref (q 10), .int (iI (u)), .int (iI (part)), .int (iI (k))] : List Value).toArray below meth cd H locs 0 0 Q (F0 m 3 ls []) := by
    intro k_
    induction k_ with
    | zero => intro j H locs ls hj _ _ _ _; exact absurd hj (by omega)
    | succ k_ ih1 =>
      intro j H locs ls hj hP hD hS hl
      refine lv_iload hx hb d_AR_readDigits_3 (lv_at hl 0 rfl) ?_
      refine lv_iload_n hx hb d_AR_readDigits_5 rfl (lv_at hl 4 rfl) ?_
      refine cx_icmp_ge (tgt := 43) hx hb d_AR_readDigits_6 rfl (by omega) (by omega) (fun h6 => ?_) (fun h6 => ?_)
      · obtain rfl : j = k := by omega
        exact hret () trivial hP hD hS d_AR_readDigits_43
      · refine lv_aload_n hx hb d_AR_readDigits_9 rfl (lv_at hl 1 rfl) ?_
        refine va_get (D := D) (ci := 0) (v := .ref (q 11)) (C := R_AR) (T := T_AR) (N := 2) hx hb hT lays_AR hown hK hP 0 rfl rfl 1 (by decide) (hT _ tw_72) (fun _ h9 => h9) rfl d_AR_readDigits_10 ?_
        refine lv_iload hx hb d_AR_readDigits_13 (lv_at hl 0 rfl) ?_
        refine lv_iload hx hb d_AR_readDigits_15 (lv_at hl 0 rfl) ?_
        refine lv_iload_n hx hb d_AR_readDigits_17 rfl (lv_at hl 3 rfl) ?_
        refine cx_icmp_ge (tgt := 35) hx hb d_AR_readDigits_18 rfl (by omega) (by omega) (fun h18 => ?_) (fun h18 => ?_)
        · refine cx_iconst hx hb d_AR_readDigits_35 ?_
          refine cx_iast (g := iF (spa d 0 j (rdg ch u part))) (g' := iF (spa d 0 (j + 1) (rdg ch u part))) hx hb hK hP hD hS 1 0 rfl rfl (by omega) (by omega) (fun z => by rw [iF_put, spa_step (F := rdg ch u part) (k2 := j + 1) (by omega) (by omega) rfl (by unfold rdg; rw [if_neg (by omega)])]) d_AR_readDigits_36 (fun H locs hP hD hS => ?_)
          have hP : va_P D vwCl (arW T q n (spa d 0 (j + 1) (rdg ch u part)) ch mk) H := hP
          have hD : va_D A (arW T q n (spa d 0 (j + 1) (rdg ch u part)) ch mk) := hD
          refine cx_iinc (k := 0) (lv' := [(4, .int (iI (j + 1))), (0, .ref (q 10)), (1, .int (iI (u))), (2, .int (iI (part))), (3, .int (iI (k)))]) hx hb d_AR_readDigits_37 hl rfl (by decide) rfl (fun ls hl => ?_)
          refine lv_goto (tgt := 3) hx hb d_AR_readDigits_40 rfl ?_
          exact ih1 (j + 1) _ _ _ (by omega) hP hD hS (lv_sub hl [0, 1, 2, 3, 4] rfl)
        · refine lv_aload_n hx hb d_AR_readDigits_21 rfl (lv_at hl 1 rfl) ?_
          refine va_get (D := D) (ci := 0) (v := .ref (q 1)) (C := R_AR) (T := T_AR) (N := 2) hx hb hT lays_AR hown hK hP 0 rfl rfl 0 (by decide) (hT _ tw_71) (fun _ h9 => h9) rfl d_AR_readDigits_22 ?_
          refine lv_iload_n hx hb d_AR_readDigits_25 rfl (lv_at hl 2 rfl) ?_
          refine lv_iload hx hb d_AR_readDigits_26 (lv_at hl 0 rfl) ?_
          refine cx_isub hx hb d_AR_readDigits_28 ?_
          refine cx_cI (ws2 := fun _ => arW T q n (spa d 0 j (rdg ch u part)) ch mk) (cx_rV (q0 := 2) (ci := 3) (rest := [.int (iI (j)), .ref (q 11)]) (As := [.int (iI (u - j))]) hx hb hml hown hT hK hN hP hD hl.1 tw_378 k_ST_digit (c_ST_digit l D T H.size q n ch mk hn hC (u - j) (by omega)) ⟨by decide, by decide⟩ ⟨rfl, rfl⟩ [2, 3] (by decide) rfl rfl rfl rfl rfl (Nat.le_of_ble_eq_true rfl) ⟨Nat.zero_le _, Nat.zero_le _⟩ d_AR_readDigits_29) hP hD hS hA [2, 3] [0, 1] [0, 1, 2, 3] rfl (wr := [(q 10, .inr (0, [.ref (q 1), .ref (q 11)])), (q 11, .inl (T 0, n, .inl (fun jj : Nat => (iF (spa d 0 j (rdg ch u part))) (jj : Int))))]) rfl (by decide) (by decide) (fun _ => rfl) (by decide) (fun r u_ H locs hq29 hP hD hS => ?_)
          subst hq29
          refine lv_goto (tgt := 36) hx hb d_AR_readDigits_32 rfl ?_
          refine cx_iast (g := iF (spa d 0 j (rdg ch u part))) (g' := iF (spa d 0 (j + 1) (rdg ch u part))) hx hb hK hP hD hS 1 0 rfl rfl (by omega) (by omega) (fun z => by rw [iF_put, spa_step (F := rdg ch u part) (k2 := j + 1) (by omega) (by omega) rfl (by unfold rdg; rw [if_pos h18])]) d_AR_readDigits_36 (fun H locs hP hD hS => ?_)
          have hP : va_P D vwCl (arW T q n (spa d 0 (j + 1) (rdg ch u part)) ch mk) H := hP
          have hD : va_D A (arW T q n (spa d 0 (j + 1) (rdg ch u part)) ch mk) := hD
          refine cx_iinc (k := 0) (lv' := [(4, .int (iI (j + 1))), (0, .ref (q 10)), (1, .int (iI (u))), (2, .int (iI (part))), (3, .int (iI (k)))]) hx hb d_AR_readDigits_37 hl rfl (by decide) rfl (fun ls hl => ?_)
          refine lv_goto (tgt := 3) hx hb d_AR_readDigits_40 rfl ?_
          exact ih1 (j + 1) _ _ _ (by omega) hP hD hS (lv_sub hl [0, 1, 2, 3, 4] rfl)
  rw [← spa_0 d 0 (rdg ch u part)] at hP hD
  exact L1 2001 0 _ _ _ (by omega) hP hD hS (lv_sub hl [0, 1, 2, 3, 4] rfl)

set_option maxHeartbeats 4000000 in
set_option maxRecDepth 100000 in
theorem c_AR_replace (l : Launch) (D : va_G) (T : Nat → ClassId) (sz : Nat) (q : Nat → Nat) (n : Nat) (d ch mk : Int → Int) (hn : 400 ≤ n ∧ n ≤ 2000) (hC : okC ch mk) (u k : Int) (h_u : 0 ≤ u ∧ u < n) (h_k : 1 ≤ k ∧ k ≤ u + 1) (hd : ∀ i, 0 ≤ i → i < k → 0 ≤ d i ∧ d i < 10) : MV l y_AR_replace (wY y_AR_replace b_AR_replace 4 none) (rmK 1) D vwCl (tyL T) nwL sz [.ref (q 10), .int (iI (u)), .int (iI (k))] (arW T q n d ch mk) (fun (_ : Unit) => True) (fun _ => arW T q n d (spn ch u k (fun i => wrt (d i))) mk) := by
  refine cx_inV (by decide) rfl (Nat.le_of_ble_eq_true rfl) ?_
  intro p e s m below meth cd ls A Q hx hb hml hT hown hret hP hK hD hN hS hA hl
  have hown : s.vm.findClass R_AR = some m.cls := hown
  have hl : lv_has ls 4 [(0, .ref (q 10)), (1, .int (iI (u))), (2, .int (iI (k)))] := hl
  refine cx_iconst hx hb d_AR_replace_0 ?_
  refine lv_istore_n (lv' := [(3, .int (iI (0))), (0, .ref (q 10)), (1, .int (iI (u))), (2, .int (iI (k)))]) hx hb d_AR_replace_1 rfl hl (by decide) rfl (fun ls hl => ?_)
  have L1 : ∀ (k_ : Nat) (j : Int) (H : Heap) (locs : List Loc) (ls : Array Slot), (0 ≤ j ∧ j ≤ k ∧ k - j < k_) → (okC (spn ch u j (fun i => wrt (d i))) mk) → va_P D vwCl (arW T q n d (spn ch u j (fun i => wrt (d i))) mk) H → va_D A (arW T q n d (spn ch u j (fun i => wrt (d i))) mk) → va_S A s.heap H locs → lv_has ls 4 [(3, .int (iI (j))), (0, .ref (q 10)), (1, .int (iI (u))), (2, .int (iI (k)))] → W p l e (rmK 1) s m ([.ref (q 10), .int (iI (u)), .int (iI (k))] : List Value).toArray below meth cd H locs 0 0 Q (F0 m 2 ls []) := by
    intro k_
    induction k_ with
    | zero => intro j H locs ls hj hC _ _ _ _; exact absurd hj (by omega)
    | succ k_ ih1 =>
      intro j H locs ls hj hC hP hD hS hl
      refine lv_iload_n hx hb d_AR_replace_2 rfl (lv_at hl 0 rfl) ?_
      refine lv_iload_n hx hb d_AR_replace_3 rfl (lv_at hl 3 rfl) ?_
      refine cx_icmp_ge (tgt := 32) hx hb d_AR_replace_4 rfl (by omega) (by omega) (fun h4 => ?_) (fun h4 => ?_)
      · obtain rfl : j = k := by omega
        exact hret () trivial hP hD hS d_AR_replace_32
      · have h1 := hd j (by omega) (by omega)
        have h2 := wrt_in h1
        refine lv_aload_n hx hb d_AR_replace_7 rfl (lv_at hl 1 rfl) ?_
        refine va_get (D := D) (ci := 0) (v := .ref (q 1)) (C := R_AR) (T := T_AR) (N := 2) hx hb hT lays_AR hown hK hP 0 rfl rfl 0 (by decide) (hT _ tw_71) (fun _ h9 => h9) rfl d_AR_replace_8 ?_
        refine lv_iload_n hx hb d_AR_replace_11 rfl (lv_at hl 2 rfl) ?_
        refine lv_iload_n hx hb d_AR_replace_12 rfl (lv_at hl 0 rfl) ?_
        refine cx_isub hx hb d_AR_replace_13 ?_
        refine lv_aload_n hx hb d_AR_replace_14 rfl (lv_at hl 1 rfl) ?_
        refine va_get (D := D) (ci := 0) (v := .ref (q 11)) (C := R_AR) (T := T_AR) (N := 2) hx hb hT lays_AR hown hK hP 0 rfl rfl 1 (by decide) (hT _ tw_72) (fun _ h9 => h9) rfl d_AR_replace_15 ?_
        refine lv_iload_n hx hb d_AR_replace_18 rfl (lv_at hl 0 rfl) ?_
        refine cx_iald (g := iF d) hx hb hK hP 1 0 rfl rfl (by omega) (by omega) d_AR_replace_19 ?_
        refine cx_cI (ws2 := fun _ => arW T q n d (spn ch u j (fun i => wrt (d i))) mk) (cx_rN (rest := [.int (iI (u - j)), .ref (q 1)]) (As := [.int (iI (d (j)))]) hx hb hml hown hT hK hN hP hD hl.1 (show (Jvm.Cond.methodLinkNest "CharMachine$Arithmetic" (27 : Nat) ({ cls := "CharMachine", name := "written", desc := "(I)I" } : Jvm.MethodName) "CharMachine") ∈ nwL by decide +kernel) k_CM_written (c_CM_written l D T H.size (d (j)) (by omega)) ⟨by decide, by decide⟩ ⟨rfl, rfl⟩ [] (by decide) rfl rfl rfl (Nat.le_of_ble_eq_true rfl) ⟨Nat.zero_le _, Nat.zero_le _⟩ d_AR_replace_20) hP hD hS hA [] [0, 1, 2, 3] [0, 1, 2, 3] rfl (wr := [(q 10, .inr (0, [.ref (q 1), .ref (q 11)])), (q 11, .inl (T 0, n, .inl (fun jj : Nat => (iF d) (jj : Int)))), (q 1, .inr (3, [.ref (q 2)])), (q 2, .inl (T 0, n, .inl (fun jj : Nat => (ceF (spn ch u j (fun i => wrt (d i))) mk) (jj : Int))))]) rfl (by decide) (by decide) (fun _ => rfl) (by decide) (fun r u_ H locs hq20 hP hD hS => ?_)
        subst hq20
        refine cx_cV (ws2 := fun _ => arW T q n d (fu (spn ch u j (fun i => wrt (d i))) (u - j) (wrt (d (j)))) mk) (cx_rV (q0 := 2) (ci := 3) (rest := []) (As := [.int (iI (u - j)), .int (iI (wrt (d (j))))]) hx hb hml hown hT hK hN hP hD hl.1 tw_386 k_ST_write (c_ST_write l D T H.size q n (spn ch u j (fun i => wrt (d i))) mk hn hC (u - j) (by omega) (wrt (d (j))) (by omega)) ⟨by decide, by decide⟩ ⟨rfl, rfl⟩ [2, 3] (by decide) rfl rfl rfl rfl rfl (Nat.le_of_ble_eq_true rfl) ⟨Nat.zero_le _, Nat.zero_le _⟩ d_AR_replace_23) hP hD hS hA [2, 3] [0, 1] [0, 1, 2, 3] rfl (wr := [(q 10, .inr (0, [.ref (q 1), .ref (q 11)])), (q 11, .inl (T 0, n, .inl (fun jj : Nat => (iF d) (jj : Int))))]) rfl (by decide) (by decide) (fun _ => rfl) (by decide) (fun u_ H locs hq23 hP hD hS => ?_)
        have hC : okC (fu (spn ch u j (fun i => wrt (d i))) (u - j) (wrt (d (j)))) mk := okC_fu hC (by omega)
        refine cx_iinc (k := 0) (lv' := [(3, .int (iI (j + 1))), (0, .ref (q 10)), (1, .int (iI (u))), (2, .int (iI (k)))]) hx hb d_AR_replace_26 hl rfl (by decide) rfl (fun ls hl => ?_)
        refine lv_goto (tgt := 2) hx hb d_AR_replace_29 rfl ?_
        rw [spn_step (F := fun i => wrt (d i)) (by omega) rfl] at hP hD hC
        exact ih1 (j + 1) _ _ _ (by omega) hC hP hD hS (lv_sub hl [0, 1, 2, 3] rfl)
  rw [← spn_0 ch u (fun i => wrt (d i))] at hP hD
  exact L1 2001 0 _ _ _ (by omega) (by rw [spn_0]; exact hC) hP hD hS (lv_sub hl [0, 1, 2, 3] rfl)

set_option maxHeartbeats 4000000 in
set_option maxRecDepth 100000 in
theorem c_AR_add (l : Launch) (D : va_G) (T : Nat → ClassId) (sz : Nat) (q : Nat → Nat) (n : Nat) (d ch mk : Int → Int) (hn : 400 ≤ n ∧ n ≤ 2000) (hC : okC ch mk) (u k : Int) (h_u : 0 ≤ u ∧ u < n) (h_k : 1 ≤ k ∧ k ≤ u + 1) (hd : ∀ i, 0 ≤ i → i < k → 0 ≤ d i ∧ d i < 10) : MI l y_AR_add (wY y_AR_add b_AR_add 7 (some .boolean)) (rmK 1) D vwCl (tyL T) nwL sz [.ref (q 10), .int (iI (u)), .int (iI (k))] (arW T q n d ch mk) (fun r (_ : Unit) => (r = iI 1 ∧ 0 < car d (fun i => vl (ch (u - i))) k.toNat) ∨ (r = iI 0 ∧ car d (fun i => vl (ch (u - i))) k.toNat ≤ 0)) (fun _ => arW T q n d (spn ch u k (adF ch d u)) mk) := by
  refine cx_inZ (by decide) rfl (Nat.le_of_ble_eq_true rfl) ?_
  intro p e s m below meth cd ls A Q hx hb hml hT hown hret hP hK hD hN hS hA hl
  have hown : s.vm.findClass R_AR = some m.cls := hown
  have hl : lv_has ls 7 [(0, .ref (q 10)), (1, .int (iI (u))), (2, .int (iI (k)))] := hl
  have hC0 := hC
  have hz := zn_in (hC.1 u)
  obtain ⟨zz, hzz⟩ : ∃ x, x = zn (ch u) := ⟨_, rfl⟩
  refine lv_aload_n hx hb d_AR_add_0 rfl (lv_at hl 0 rfl) ?_
  refine va_get (D := D) (ci := 0) (v := .ref (q 1)) (C := R_AR) (T := T_AR) (N := 2) hx hb hT lays_AR hown hK hP 0 rfl rfl 0 (by decide) (hT _ tw_71) (fun _ h9 => h9) rfl d_AR_add_1 ?_
  refine lv_iload_n hx hb d_AR_add_4 rfl (lv_at hl 1 rfl) ?_
  refine cx_cI (ws2 := fun _ => arW T q n d ch mk) (cx_rV (q0 := 2) (ci := 3) (rest := []) (As := [.int (iI (u))]) hx hb hml hown hT hK hN hP hD hl.1 tw_407 k_ST_zone (c_ST_zone l D T s.heap.size q n ch mk hn hC u (by omega)) ⟨by decide, by decide⟩ ⟨rfl, rfl⟩ [2, 3] (by decide) rfl rfl rfl rfl rfl (Nat.le_of_ble_eq_true rfl) ⟨Nat.zero_le _, Nat.zero_le _⟩ d_AR_add_5) hP hD hS hA [2, 3] [0, 1] [0, 1, 2, 3] rfl (wr := [(q 10, .inr (0, [.ref (q 1), .ref (q 11)])), (q 11, .inl (T 0, n, .inl (fun jj : Nat => (iF d) (jj : Int))))]) rfl (by decide) (by decide) (fun _ => rfl) (by decide) (fun r u_ H locs hq5 hP hD hS => ?_)
  subst hq5
  refine lv_istore_n (lv' := [(3, .int (iI (zn (ch (u))))), (0, .ref (q 10)), (1, .int (iI (u))), (2, .int (iI (k)))]) hx hb d_AR_add_8 rfl hl (by decide) rfl (fun ls hl => ?_)
  refine cx_iconst hx hb d_AR_add_9 ?_
  refine lv_istore (lv' := [(4, .int (iI (0))), (3, .int (iI (zn (ch (u))))), (0, .ref (q 10)), (1, .int (iI (u))), (2, .int (iI (k)))]) hx hb d_AR_add_10 hl (by decide) rfl (fun ls hl => ?_)
  refine cx_iconst hx hb d_AR_add_12 ?_
  refine lv_istore (lv' := [(5, .int (iI (0))), (4, .int (iI (0))), (3, .int (iI (zn (ch (u))))), (0, .ref (q 10)), (1, .int (iI (u))), (2, .int (iI (k)))]) hx hb d_AR_add_13 hl (by decide) rfl (fun ls hl => ?_)
  have L1 : ∀ (k_ : Nat) (j : Int) (v : Int) (H : Heap) (locs : List Loc) (ls : Array Slot), (0 ≤ j ∧ j ≤ k ∧ k - j < k_) → (okC (spn ch u j (adF ch d u)) mk) → (v = car d (fun i => vl (ch (u - i))) j.toNat) → (0 ≤ v ∧ v ≤ 1) → va_P D vwCl (arW T q n d (spn ch u j (adF ch d u)) mk) H → va_D A (arW T q n d (spn ch u j (adF ch d u)) mk) → va_S A s.heap H locs → lv_has ls 7 [(5, .int (iI (j))), (4, .int (iI (v))), (3, .int (iI (zn (ch u)))), (0, .ref (q 10)), (1, .int (iI (u))), (2, .int (iI (k)))] → W p l e (rmK 1) s m ([.ref (q 10), .int (iI (u)), .int (iI (k))] : List Value).toArray below meth cd H locs 0 0 Q (F0 m 15 ls []) := by
    intro k_
    induction k_ with
    | zero => intro j v H locs ls hj hC hv hv2 _ _ _ _; exact absurd hj (by omega)
    | succ k_ ih1 =>
      intro j v H locs ls hj hC hv hv2 hP hD hS hl
      refine lv_iload hx hb d_AR_add_15 (lv_at hl 0 rfl) ?_
      refine lv_iload_n hx hb d_AR_add_17 rfl (lv_at hl 5 rfl) ?_
      refine cx_icmp_ge (tgt := 88) hx hb d_AR_add_18 rfl (by omega) (by omega) (fun h18 => ?_) (fun h18 => ?_)
      · obtain rfl : j = k := by omega
        refine lv_iload hx hb d_AR_add_88 (lv_at hl 1 rfl) ?_
        refine cx_if_le (tgt := 97) hx hb d_AR_add_90 rfl (by omega) (fun h90 => ?_) (fun h90 => ?_)
        · refine cx_iconst hx hb d_AR_add_97 ?_
          exact hret () (Or.inl rfl) (Or.inr ⟨rfl, by rw [← hv]; omega⟩) hP hD hS d_AR_add_98
        · refine cx_iconst hx hb d_AR_add_93 ?_
          refine lv_goto (tgt := 98) hx hb d_AR_add_94 rfl ?_
          exact hret () (Or.inr rfl) (Or.inl ⟨rfl, by rw [← hv]; omega⟩) hP hD hS d_AR_add_98
      · have h1 := hd j (by omega) (by omega)
        have h2 := vl_in (hC0.1 (u - j))
        refine lv_aload_n hx hb d_AR_add_21 rfl (lv_at hl 3 rfl) ?_
        refine va_get (D := D) (ci := 0) (v := .ref (q 1)) (C := R_AR) (T := T_AR) (N := 2) hx hb hT lays_AR hown hK hP 0 rfl rfl 0 (by decide) (hT _ tw_71) (fun _ h9 => h9) rfl d_AR_add_22 ?_
        refine lv_iload_n hx hb d_AR_add_25 rfl (lv_at hl 4 rfl) ?_
        refine lv_iload hx hb d_AR_add_26 (lv_at hl 0 rfl) ?_
        refine cx_isub hx hb d_AR_add_28 ?_
        refine cx_cI (ws2 := fun _ => arW T q n d (spn ch u j (adF ch d u)) mk) (cx_rV (q0 := 2) (ci := 3) (rest := []) (As := [.int (iI (u - j))]) hx hb hml hown hT hK hN hP hD hl.1 tw_378 k_ST_digit (c_ST_digit l D T H.size q n (spn ch u j (adF ch d u)) mk hn hC (u - j) (by omega)) ⟨by decide, by decide⟩ ⟨rfl, rfl⟩ [2, 3] (by decide) rfl rfl rfl rfl rfl (Nat.le_of_ble_eq_true rfl) ⟨Nat.zero_le _, Nat.zero_le _⟩ d_AR_add_29) hP hD hS hA [2, 3] [0, 1] [0, 1, 2, 3] rfl (wr := [(q 10, .inr (0, [.ref (q 1), .ref (q 11)])), (q 11, .inl (T 0, n, .inl (fun jj : Nat => (iF d) (jj : Int))))]) rfl (by decide) (by decide) (fun _ => rfl) (by decide) (fun r u_ H locs hq29 hP hD hS => ?_)
        subst hq29
        refine cx_eq (show iI (vl ((spn ch u j (adF ch d u)) (u - j))) = iI (vl (ch (u - j))) from by rw [spn_out (by omega)]) ?_
        refine lv_aload_n hx hb d_AR_add_32 rfl (lv_at hl 3 rfl) ?_
        refine va_get (D := D) (ci := 0) (v := .ref (q 11)) (C := R_AR) (T := T_AR) (N := 2) hx hb hT lays_AR hown hK hP 0 rfl rfl 1 (by decide) (hT _ tw_72) (fun _ h9 => h9) rfl d_AR_add_33 ?_
        refine lv_iload hx hb d_AR_add_36 (lv_at hl 0 rfl) ?_
        refine cx_iald (g := iF d) hx hb hK hP 1 0 rfl rfl (by omega) (by omega) d_AR_add_38 ?_
        refine cx_iadd hx hb d_AR_add_39 ?_
        refine lv_iload hx hb d_AR_add_40 (lv_at hl 1 rfl) ?_
        refine cx_iadd hx hb d_AR_add_42 ?_
        refine lv_istore (lv' := [(6, .int (iI (((vl (ch (u - j))) + (d (j))) + v))), (5, .int (iI (j))), (4, .int (iI (v))), (3, .int (iI (zn (ch u)))), (0, .ref (q 10)), (1, .int (iI (u))), (2, .int (iI (k)))]) hx hb d_AR_add_43 hl (by decide) rfl (fun ls hl => ?_)
        have h3 := wrt_in (v := (vl (ch (u - j)) + d j + v) % 10) (by omega)
        refine lv_iload hx hb d_AR_add_45 (lv_at hl 0 rfl) ?_
        refine cx_bipush hx hb d_AR_add_47 rfl ?_
        refine cx_idiv hx hb d_AR_add_49 (by omega) (by omega) ?_
        refine lv_istore (lv' := [(4, .int (iI ((((vl (ch (u - j))) + (d (j))) + v) / 10))), (6, .int (iI (((vl (ch (u - j))) + (d (j))) + v))), (5, .int (iI (j))), (3, .int (iI (zn (ch u)))), (0, .ref (q 10)), (1, .int (iI (u))), (2, .int (iI (k)))]) hx hb d_AR_add_50 hl (by decide) rfl (fun ls hl => ?_)
        refine lv_aload_n hx hb d_AR_add_52 rfl (lv_at hl 4 rfl) ?_
        refine va_get (D := D) (ci := 0) (v := .ref (q 1)) (C := R_AR) (T := T_AR) (N := 2) hx hb hT lays_AR hown hK hP 0 rfl rfl 0 (by decide) (hT _ tw_71) (fun _ h9 => h9) rfl d_AR_add_53 ?_
        refine lv_iload_n hx hb d_AR_add_56 rfl (lv_at hl 5 rfl) ?_
        refine lv_iload hx hb d_AR_add_57 (lv_at hl 2 rfl) ?_
        refine cx_isub hx hb d_AR_add_59 ?_
        refine lv_iload hx hb d_AR_add_60 (lv_at hl 1 rfl) ?_
        refine cx_bipush hx hb d_AR_add_62 rfl ?_
        refine cx_irem hx hb d_AR_add_64 (by omega) (by omega) ?_
        refine cx_cI (ws2 := fun _ => arW T q n d (spn ch u j (adF ch d u)) mk) (cx_rN (rest := [.int (iI (u - j)), .ref (q 1)]) (As := [.int (iI ((((vl (ch (u - j))) + (d (j))) + v) % 10))]) hx hb hml hown hT hK hN hP hD hl.1 (show (Jvm.Cond.methodLinkNest "CharMachine$Arithmetic" (27 : Nat) ({ cls := "CharMachine", name := "written", desc := "(I)I" } : Jvm.MethodName) "CharMachine") ∈ nwL by decide +kernel) k_CM_written (c_CM_written l D T H.size ((((vl (ch (u - j))) + (d (j))) + v) % 10) (by omega)) ⟨by decide, by decide⟩ ⟨rfl, rfl⟩ [] (by decide) rfl rfl rfl (Nat.le_of_ble_eq_true rfl) ⟨Nat.zero_le _, Nat.zero_le _⟩ d_AR_add_65) hP hD hS hA [] [0, 1, 2, 3] [0, 1, 2, 3] rfl (wr := [(q 10, .inr (0, [.ref (q 1), .ref (q 11)])), (q 11, .inl (T 0, n, .inl (fun jj : Nat => (iF d) (jj : Int)))), (q 1, .inr (3, [.ref (q 2)])), (q 2, .inl (T 0, n, .inl (fun jj : Nat => (ceF (spn ch u j (adF ch d u)) mk) (jj : Int))))]) rfl (by decide) (by decide) (fun _ => rfl) (by decide) (fun r u_ H locs hq65 hP hD hS => ?_)
        subst hq65
        refine lv_iload hx hb d_AR_add_68 (lv_at hl 2 rfl) ?_
        refine cx_if_ne (tgt := 77) hx hb d_AR_add_70 rfl (by omega) (fun h70 => ?_) (fun h70 => ?_)
        · refine cx_iconst hx hb d_AR_add_77 ?_
          refine lv_ior hx hb d_AR_add_78 ?_
          refine cx_eq (bt_z0 (by omega)) ?_
          refine cx_cV (ws2 := fun _ => arW T q n d (fu (spn ch u j (adF ch d u)) (u - j) (wrt ((((vl (ch (u - j))) + (d (j))) + v) % 10) + 0)) mk) (cx_rV (q0 := 2) (ci := 3) (rest := []) (As := [.int (iI (u - j)), .int (iI (wrt ((((vl (ch (u - j))) + (d (j))) + v) % 10) + 0))]) hx hb hml hown hT hK hN hP hD hl.1 tw_386 k_ST_write (c_ST_write l D T H.size q n (spn ch u j (adF ch d u)) mk hn hC (u - j) (by omega) (wrt ((((vl (ch (u - j))) + (d (j))) + v) % 10) + 0) (by omega)) ⟨by decide, by decide⟩ ⟨rfl, rfl⟩ [2, 3] (by decide) rfl rfl rfl rfl rfl (Nat.le_of_ble_eq_true rfl) ⟨Nat.zero_le _, Nat.zero_le _⟩ d_AR_add_79) hP hD hS hA [2, 3] [0, 1] [0, 1, 2, 3] rfl (wr := [(q 10, .inr (0, [.ref (q 1), .ref (q 11)])), (q 11, .inl (T 0, n, .inl (fun jj : Nat => (iF d) (jj : Int))))]) rfl (by decide) (by decide) (fun _ => rfl) (by decide) (fun u_ H locs hq79 hP hD hS => ?_)
          have hC : okC (fu (spn ch u j (adF ch d u)) (u - j) (wrt ((((vl (ch (u - j))) + (d (j))) + v) % 10) + 0)) mk := okC_fu hC (by omega)
          refine cx_iinc (k := 2) (lv' := [(5, .int (iI (j + 1))), (4, .int (iI ((((vl (ch (u - j))) + (d (j))) + v) / 10))), (6, .int (iI (((vl (ch (u - j))) + (d (j))) + v))), (3, .int (iI (zn (ch u)))), (0, .ref (q 10)), (1, .int (iI (u))), (2, .int (iI (k)))]) hx hb d_AR_add_82 hl rfl (by decide) rfl (fun ls hl => ?_)
          refine lv_goto (tgt := 15) hx hb d_AR_add_85 rfl ?_
          rw [spn_step (F := adF ch d u) (by omega) (by unfold adF; rw [← hv, if_neg h70])] at hP hD hC
          exact ih1 (j + 1) ((((vl (ch (u - j))) + (d (j))) + v) / 10) _ _ _ (by omega) hC (by rw [car_step (by omega), hv]) (by omega) hP hD hS (lv_sub hl [0, 1, 3, 4, 5, 6] rfl)
        · refine lv_iload_n hx hb d_AR_add_73 rfl (lv_at hl 3 rfl) ?_
          refine lv_goto (tgt := 78) hx hb d_AR_add_74 rfl ?_
          refine lv_ior hx hb d_AR_add_78 ?_
          refine cx_eq (bt_zn (by omega) (hC0.1 u)) ?_
          refine cx_cV (ws2 := fun _ => arW T q n d (fu (spn ch u j (adF ch d u)) (u - j) (wrt ((((vl (ch (u - j))) + (d (j))) + v) % 10) + zn (ch u))) mk) (cx_rV (q0 := 2) (ci := 3) (rest := []) (As := [.int (iI (u - j)), .int (iI (wrt ((((vl (ch (u - j))) + (d (j))) + v) % 10) + zn (ch u)))]) hx hb hml hown hT hK hN hP hD hl.1 tw_386 k_ST_write (c_ST_write l D T H.size q n (spn ch u j (adF ch d u)) mk hn hC (u - j) (by omega) (wrt ((((vl (ch (u - j))) + (d (j))) + v) % 10) + zn (ch u)) (by omega)) ⟨by decide, by decide⟩ ⟨rfl, rfl⟩ [2, 3] (by decide) rfl rfl rfl rfl rfl (Nat.le_of_ble_eq_true rfl) ⟨Nat.zero_le _, Nat.zero_le _⟩ d_AR_add_79) hP hD hS hA [2, 3] [0, 1] [0, 1, 2, 3] rfl (wr := [(q 10, .inr (0, [.ref (q 1), .ref (q 11)])), (q 11, .inl (T 0, n, .inl (fun jj : Nat => (iF d) (jj : Int))))]) rfl (by decide) (by decide) (fun _ => rfl) (by decide) (fun u_ H locs hq79 hP hD hS => ?_)
          have hC : okC (fu (spn ch u j (adF ch d u)) (u - j) (wrt ((((vl (ch (u - j))) + (d (j))) + v) % 10) + zn (ch u))) mk := okC_fu hC (by omega)
          refine cx_iinc (k := 2) (lv' := [(5, .int (iI (j + 1))), (4, .int (iI ((((vl (ch (u - j))) + (d (j))) + v) / 10))), (6, .int (iI (((vl (ch (u - j))) + (d (j))) + v))), (3, .int (iI (zn (ch u)))), (0, .ref (q 10)), (1, .int (iI (u))), (2, .int (iI (k)))]) hx hb d_AR_add_82 hl rfl (by decide) rfl (fun ls hl => ?_)
          refine lv_goto (tgt := 15) hx hb d_AR_add_85 rfl ?_
          rw [spn_step (F := adF ch d u) (by omega) (by unfold adF; rw [← hv, if_pos h70])] at hP hD hC
          exact ih1 (j + 1) ((((vl (ch (u - j))) + (d (j))) + v) / 10) _ _ _ (by omega) hC (by rw [car_step (by omega), hv]) (by omega) hP hD hS (lv_sub hl [0, 1, 3, 4, 5, 6] rfl)
  rw [← spn_0 ch u (adF ch d u)] at hP hD
  exact L1 2001 0 0 _ _ _ (by omega) (by rw [spn_0]; exact hC) rfl (by omega) hP hD hS (lv_sub hl [0, 1, 2, 3, 4, 5] rfl)

set_option maxHeartbeats 4000000 in
set_option maxRecDepth 100000 in
theorem c_AR_subtract (l : Launch) (D : va_G) (T : Nat → ClassId) (sz : Nat) (q : Nat → Nat) (n : Nat) (d ch mk : Int → Int) (hn : 400 ≤ n ∧ n ≤ 2000) (hC : okC ch mk) (u k : Int) (h_u : 0 ≤ u ∧ u < n) (h_k : 1 ≤ k ∧ k ≤ u + 1) (hd : ∀ i, 0 ≤ i → i < k → 0 ≤ d i ∧ d i < 10) (g : Int) (hg : g = 0 ∨ g = 1) : MV l y_AR_subtract (wY y_AR_subtract b_AR_subtract 8 none) (rmK 1) D vwCl (tyL T) nwL sz [.ref (q 10), .int (iI (u)), .int (iI (k)), .int (iI (g))] (arW T q n d ch mk) (fun (_ : Unit) => True) (fun _ => arW T q n d (spn ch u k (sbF ch d u g)) mk) := by
  refine cx_inV (by decide) rfl (Nat.le_of_ble_eq_true rfl) ?_
  intro p e s m below meth cd ls A Q hx hb hml hT hown hret hP hK hD hN hS hA hl
  have hown : s.vm.findClass R_AR = some m.cls := hown
  have hl : lv_has ls 8 [(0, .ref (q 10)), (1, .int (iI (u))), (2, .int (iI (k))), (3, .int (iI (g)))] := hl
  have hC0 := hC
  refine cx_iconst hx hb d_AR_subtract_0 ?_
  refine lv_istore (lv' := [(4, .int (iI (0))), (0, .ref (q 10)), (1, .int (iI (u))), (2, .int (iI (k))), (3, .int (iI (g)))]) hx hb d_AR_subtract_1 hl (by decide) rfl (fun ls hl => ?_)
  refine cx_iconst hx hb d_AR_subtract_3 ?_
  refine lv_istore (lv' := [(5, .int (iI (0))), (4, .int (iI (0))), (0, .ref (q 10)), (1, .int (iI (u))), (2, .int (iI (k))), (3, .int (iI (g)))]) hx hb d_AR_subtract_4 hl (by decide) rfl (fun ls hl => ?_)
  have L1 : ∀ (k_ : Nat) (j : Int) (v : Int) (H : Heap) (locs : List Loc) (ls : Array Slot), (0 ≤ j ∧ j ≤ k ∧ k - j < k_) → (okC (spn ch u j (sbF ch d u g)) mk) → (v = bor g d (fun i => vl (ch (u - i))) j.toNat) → (0 ≤ v ∧ v ≤ 1) → va_P D vwCl (arW T q n d (spn ch u j (sbF ch d u g)) mk) H → va_D A (arW T q n d (spn ch u j (sbF ch d u g)) mk) → va_S A s.heap H locs → lv_has ls 8 [(5, .int (iI (j))), (4, .int (iI (v))), (0, .ref (q 10)), (1, .int (iI (u))), (2, .int (iI (k))), (3, .int (iI (g)))] → W p l e (rmK 1) s m ([.ref (q 10), .int (iI (u)), .int (iI (k)), .int (iI (g))] : List Value).toArray below meth cd H locs 0 0 Q (F0 m 6 ls []) := by
    intro k_
    induction k_ with
    | zero => intro j v H locs ls hj hC hv hv2 _ _ _ _; exact absurd hj (by omega)
    | succ k_ ih1 =>
      intro j v H locs ls hj hC hv hv2 hP hD hS hl
      refine lv_iload hx hb d_AR_subtract_6 (lv_at hl 0 rfl) ?_
      refine lv_iload_n hx hb d_AR_subtract_8 rfl (lv_at hl 4 rfl) ?_
      refine cx_icmp_ge (tgt := 97) hx hb d_AR_subtract_9 rfl (by omega) (by omega) (fun h9 => ?_) (fun h9 => ?_)
      · obtain rfl : j = k := by omega
        exact hret () trivial hP hD hS d_AR_subtract_97
      · have h1 := hd j (by omega) (by omega)
        have h2 := vl_in (hC0.1 (u - j))
        refine lv_aload_n hx hb d_AR_subtract_12 rfl (lv_at hl 2 rfl) ?_
        refine va_get (D := D) (ci := 0) (v := .ref (q 1)) (C := R_AR) (T := T_AR) (N := 2) hx hb hT lays_AR hown hK hP 0 rfl rfl 0 (by decide) (hT _ tw_71) (fun _ h9 => h9) rfl d_AR_subtract_13 ?_
        refine lv_iload_n hx hb d_AR_subtract_16 rfl (lv_at hl 3 rfl) ?_
        refine lv_iload hx hb d_AR_subtract_17 (lv_at hl 0 rfl) ?_
        refine cx_isub hx hb d_AR_subtract_19 ?_
        refine cx_cI (ws2 := fun _ => arW T q n d (spn ch u j (sbF ch d u g)) mk) (cx_rV (q0 := 2) (ci := 3) (rest := []) (As := [.int (iI (u - j))]) hx hb hml hown hT hK hN hP hD hl.1 tw_378 k_ST_digit (c_ST_digit l D T H.size q n (spn ch u j (sbF ch d u g)) mk hn hC (u - j) (by omega)) ⟨by decide, by decide⟩ ⟨rfl, rfl⟩ [2, 3] (by decide) rfl rfl rfl rfl rfl (Nat.le_of_ble_eq_true rfl) ⟨Nat.zero_le _, Nat.zero_le _⟩ d_AR_subtract_20) hP hD hS hA [2, 3] [0, 1] [0, 1, 2, 3] rfl (wr := [(q 10, .inr (0, [.ref (q 1), .ref (q 11)])), (q 11, .inl (T 0, n, .inl (fun jj : Nat => (iF d) (jj : Int))))]) rfl (by decide) (by decide) (fun _ => rfl) (by decide) (fun r u_ H locs hq20 hP hD hS => ?_)
        subst hq20
        refine cx_eq (show iI (vl ((spn ch u j (sbF ch d u g)) (u - j))) = iI (vl (ch (u - j))) from by rw [spn_out (by omega)]) ?_
        refine lv_istore (lv' := [(6, .int (iI (vl (ch (u - j))))), (5, .int (iI (j))), (4, .int (iI (v))), (0, .ref (q 10)), (1, .int (iI (u))), (2, .int (iI (k))), (3, .int (iI (g)))]) hx hb d_AR_subtract_23 hl (by decide) rfl (fun ls hl => ?_)
        refine lv_iload_n hx hb d_AR_subtract_25 rfl (lv_at hl 6 rfl) ?_
        refine cx_if_eq (tgt := 42) hx hb d_AR_subtract_26 rfl (by omega) (fun h26 => ?_) (fun h26 => ?_)
        · refine lv_iload hx hb d_AR_subtract_42 (lv_at hl 0 rfl) ?_
          refine lv_aload_n hx hb d_AR_subtract_44 rfl (lv_at hl 3 rfl) ?_
          refine va_get (D := D) (ci := 0) (v := .ref (q 11)) (C := R_AR) (T := T_AR) (N := 2) hx hb hT lays_AR hown hK hP 0 rfl rfl 1 (by decide) (hT _ tw_72) (fun _ h9 => h9) rfl d_AR_subtract_45 ?_
          refine lv_iload hx hb d_AR_subtract_48 (lv_at hl 1 rfl) ?_
          refine cx_iald (g := iF d) hx hb hK hP 1 0 rfl rfl (by omega) (by omega) d_AR_subtract_50 ?_
          refine cx_isub hx hb d_AR_subtract_51 ?_
          refine lv_iload hx hb d_AR_subtract_52 (lv_at hl 2 rfl) ?_
          refine cx_isub hx hb d_AR_subtract_54 ?_
          refine lv_istore (lv' := [(7, .int (iI (((vl (ch (u - j))) - (d (j))) - v))), (6, .int (iI (vl (ch (u - j))))), (5, .int (iI (j))), (4, .int (iI (v))), (0, .ref (q 10)), (1, .int (iI (u))), (2, .int (iI (k))), (3, .int (iI (g)))]) hx hb d_AR_subtract_55 hl (by decide) rfl (fun ls hl => ?_)
          refine lv_iload hx hb d_AR_subtract_57 (lv_at hl 0 rfl) ?_
          refine cx_if_ge (tgt := 66) hx hb d_AR_subtract_59 rfl (by omega) (fun h59 => ?_) (fun h59 => ?_)
          · refine cx_iconst hx hb d_AR_subtract_66 ?_
            refine lv_istore (lv' := [(4, .int (iI (0))), (7, .int (iI (((vl (ch (u - j))) - (d (j))) - v))), (6, .int (iI (vl (ch (u - j))))), (5, .int (iI (j))), (0, .ref (q 10)), (1, .int (iI (u))), (2, .int (iI (k))), (3, .int (iI (g)))]) hx hb d_AR_subtract_67 hl (by decide) rfl (fun ls hl => ?_)
            have hr9 : sbR g d (fun i => vl (ch (u - i))) v j = ((vl (ch (u - j))) - (d (j))) - v := by unfold sbR; rw [if_pos h26]
            have hw9 : (if sbR g d (fun i => vl (ch (u - i))) v j < 0 then (1 : Int) else 0) = 0 := by rw [hr9]; rw [if_neg (by omega)]
            have h3 := wrt_in (v := (((vl (ch (u - j))) - (d (j))) - v) + 10 * 0) (by omega)
            refine lv_aload_n hx hb d_AR_subtract_69 rfl (lv_at hl 4 rfl) ?_
            refine va_get (D := D) (ci := 0) (v := .ref (q 1)) (C := R_AR) (T := T_AR) (N := 2) hx hb hT lays_AR hown hK hP 0 rfl rfl 0 (by decide) (hT _ tw_71) (fun _ h9 => h9) rfl d_AR_subtract_70 ?_
            refine lv_iload_n hx hb d_AR_subtract_73 rfl (lv_at hl 5 rfl) ?_
            refine lv_iload hx hb d_AR_subtract_74 (lv_at hl 3 rfl) ?_
            refine cx_isub hx hb d_AR_subtract_76 ?_
            refine lv_iload hx hb d_AR_subtract_77 (lv_at hl 1 rfl) ?_
            refine cx_bipush hx hb d_AR_subtract_79 rfl ?_
            refine lv_iload hx hb d_AR_subtract_81 (lv_at hl 0 rfl) ?_
            refine cx_imul hx hb d_AR_subtract_83 ?_
            refine cx_iadd hx hb d_AR_subtract_84 ?_
            refine cx_cI (ws2 := fun _ => arW T q n d (spn ch u j (sbF ch d u g)) mk) (cx_rN (rest := [.int (iI (u - j)), .ref (q 1)]) (As := [.int (iI ((((vl (ch (u - j))) - (d (j))) - v) + (10 * 0)))]) hx hb hml hown hT hK hN hP hD hl.1 (show (Jvm.Cond.methodLinkNest "CharMachine$Arithmetic" (27 : Nat) ({ cls := "CharMachine", name := "written", desc := "(I)I" } : Jvm.MethodName) "CharMachine") ∈ nwL by decide +kernel) k_CM_written (c_CM_written l D T H.size ((((vl (ch (u - j))) - (d (j))) - v) + (10 * 0)) (by omega)) ⟨by decide, by decide⟩ ⟨rfl, rfl⟩ [] (by decide) rfl rfl rfl (Nat.le_of_ble_eq_true rfl) ⟨Nat.zero_le _, Nat.zero_le _⟩ d_AR_subtract_85) hP hD hS hA [] [0, 1, 2, 3] [0, 1, 2, 3] rfl (wr := [(q 10, .inr (0, [.ref (q 1), .ref (q 11)])), (q 11, .inl (T 0, n, .inl (fun jj : Nat => (iF d) (jj : Int)))), (q 1, .inr (3, [.ref (q 2)])), (q 2, .inl (T 0, n, .inl (fun jj : Nat => (ceF (spn ch u j (sbF ch d u g)) mk) (jj : Int))))]) rfl (by decide) (by decide) (fun _ => rfl) (by decide) (fun r u_ H locs hq85 hP hD hS => ?_)
            subst hq85
            refine cx_cV (ws2 := fun _ => arW T q n d (fu (spn ch u j (sbF ch d u g)) (u - j) (wrt ((((vl (ch (u - j))) - (d (j))) - v) + (10 * 0)))) mk) (cx_rV (q0 := 2) (ci := 3) (rest := []) (As := [.int (iI (u - j)), .int (iI (wrt ((((vl (ch (u - j))) - (d (j))) - v) + (10 * 0))))]) hx hb hml hown hT hK hN hP hD hl.1 tw_386 k_ST_write (c_ST_write l D T H.size q n (spn ch u j (sbF ch d u g)) mk hn hC (u - j) (by omega) (wrt ((((vl (ch (u - j))) - (d (j))) - v) + (10 * 0))) (by omega)) ⟨by decide, by decide⟩ ⟨rfl, rfl⟩ [2, 3] (by decide) rfl rfl rfl rfl rfl (Nat.le_of_ble_eq_true rfl) ⟨Nat.zero_le _, Nat.zero_le _⟩ d_AR_subtract_88) hP hD hS hA [2, 3] [0, 1] [0, 1, 2, 3] rfl (wr := [(q 10, .inr (0, [.ref (q 1), .ref (q 11)])), (q 11, .inl (T 0, n, .inl (fun jj : Nat => (iF d) (jj : Int))))]) rfl (by decide) (by decide) (fun _ => rfl) (by decide) (fun u_ H locs hq88 hP hD hS => ?_)
            have hC : okC (fu (spn ch u j (sbF ch d u g)) (u - j) (wrt ((((vl (ch (u - j))) - (d (j))) - v) + (10 * 0)))) mk := okC_fu hC (by omega)
            refine cx_iinc (k := 3) (lv' := [(5, .int (iI (j + 1))), (4, .int (iI (0))), (7, .int (iI (((vl (ch (u - j))) - (d (j))) - v))), (6, .int (iI (vl (ch (u - j))))), (0, .ref (q 10)), (1, .int (iI (u))), (2, .int (iI (k))), (3, .int (iI (g)))]) hx hb d_AR_subtract_91 hl rfl (by decide) rfl (fun ls hl => ?_)
            refine lv_goto (tgt := 6) hx hb d_AR_subtract_94 rfl ?_
            rw [spn_step (F := sbF ch d u g) (by omega) (by unfold sbF; rw [bor_step (by omega), ← hv, hw9, hr9])] at hP hD hC
            exact ih1 (j + 1) 0 _ _ _ (by omega) hC (by rw [bor_step (by omega), ← hv, hw9]) (by omega) hP hD hS (lv_sub hl [0, 1, 4, 5, 6, 7] rfl)
          · refine cx_iconst hx hb d_AR_subtract_62 ?_
            refine lv_goto (tgt := 67) hx hb d_AR_subtract_63 rfl ?_
            refine lv_istore (lv' := [(4, .int (iI (1))), (7, .int (iI (((vl (ch (u - j))) - (d (j))) - v))), (6, .int (iI (vl (ch (u - j))))), (5, .int (iI (j))), (0, .ref (q 10)), (1, .int (iI (u))), (2, .int (iI (k))), (3, .int (iI (g)))]) hx hb d_AR_subtract_67 hl (by decide) rfl (fun ls hl => ?_)
            have hr9 : sbR g d (fun i => vl (ch (u - i))) v j = ((vl (ch (u - j))) - (d (j))) - v := by unfold sbR; rw [if_pos h26]
            have hw9 : (if sbR g d (fun i => vl (ch (u - i))) v j < 0 then (1 : Int) else 0) = 1 := by rw [hr9]; rw [if_pos (by omega)]
            have h3 := wrt_in (v := (((vl (ch (u - j))) - (d (j))) - v) + 10 * 1) (by omega)
            refine lv_aload_n hx hb d_AR_subtract_69 rfl (lv_at hl 4 rfl) ?_
            refine va_get (D := D) (ci := 0) (v := .ref (q 1)) (C := R_AR) (T := T_AR) (N := 2) hx hb hT lays_AR hown hK hP 0 rfl rfl 0 (by decide) (hT _ tw_71) (fun _ h9 => h9) rfl d_AR_subtract_70 ?_
            refine lv_iload_n hx hb d_AR_subtract_73 rfl (lv_at hl 5 rfl) ?_
            refine lv_iload hx hb d_AR_subtract_74 (lv_at hl 3 rfl) ?_
            refine cx_isub hx hb d_AR_subtract_76 ?_
            refine lv_iload hx hb d_AR_subtract_77 (lv_at hl 1 rfl) ?_
            refine cx_bipush hx hb d_AR_subtract_79 rfl ?_
            refine lv_iload hx hb d_AR_subtract_81 (lv_at hl 0 rfl) ?_
            refine cx_imul hx hb d_AR_subtract_83 ?_
            refine cx_iadd hx hb d_AR_subtract_84 ?_
            refine cx_cI (ws2 := fun _ => arW T q n d (spn ch u j (sbF ch d u g)) mk) (cx_rN (rest := [.int (iI (u - j)), .ref (q 1)]) (As := [.int (iI ((((vl (ch (u - j))) - (d (j))) - v) + (10 * 1)))]) hx hb hml hown hT hK hN hP hD hl.1 (show (Jvm.Cond.methodLinkNest "CharMachine$Arithmetic" (27 : Nat) ({ cls := "CharMachine", name := "written", desc := "(I)I" } : Jvm.MethodName) "CharMachine") ∈ nwL by decide +kernel) k_CM_written (c_CM_written l D T H.size ((((vl (ch (u - j))) - (d (j))) - v) + (10 * 1)) (by omega)) ⟨by decide, by decide⟩ ⟨rfl, rfl⟩ [] (by decide) rfl rfl rfl (Nat.le_of_ble_eq_true rfl) ⟨Nat.zero_le _, Nat.zero_le _⟩ d_AR_subtract_85) hP hD hS hA [] [0, 1, 2, 3] [0, 1, 2, 3] rfl (wr := [(q 10, .inr (0, [.ref (q 1), .ref (q 11)])), (q 11, .inl (T 0, n, .inl (fun jj : Nat => (iF d) (jj : Int)))), (q 1, .inr (3, [.ref (q 2)])), (q 2, .inl (T 0, n, .inl (fun jj : Nat => (ceF (spn ch u j (sbF ch d u g)) mk) (jj : Int))))]) rfl (by decide) (by decide) (fun _ => rfl) (by decide) (fun r u_ H locs hq85 hP hD hS => ?_)
            subst hq85
            refine cx_cV (ws2 := fun _ => arW T q n d (fu (spn ch u j (sbF ch d u g)) (u - j) (wrt ((((vl (ch (u - j))) - (d (j))) - v) + (10 * 1)))) mk) (cx_rV (q0 := 2) (ci := 3) (rest := []) (As := [.int (iI (u - j)), .int (iI (wrt ((((vl (ch (u - j))) - (d (j))) - v) + (10 * 1))))]) hx hb hml hown hT hK hN hP hD hl.1 tw_386 k_ST_write (c_ST_write l D T H.size q n (spn ch u j (sbF ch d u g)) mk hn hC (u - j) (by omega) (wrt ((((vl (ch (u - j))) - (d (j))) - v) + (10 * 1))) (by omega)) ⟨by decide, by decide⟩ ⟨rfl, rfl⟩ [2, 3] (by decide) rfl rfl rfl rfl rfl (Nat.le_of_ble_eq_true rfl) ⟨Nat.zero_le _, Nat.zero_le _⟩ d_AR_subtract_88) hP hD hS hA [2, 3] [0, 1] [0, 1, 2, 3] rfl (wr := [(q 10, .inr (0, [.ref (q 1), .ref (q 11)])), (q 11, .inl (T 0, n, .inl (fun jj : Nat => (iF d) (jj : Int))))]) rfl (by decide) (by decide) (fun _ => rfl) (by decide) (fun u_ H locs hq88 hP hD hS => ?_)
            have hC : okC (fu (spn ch u j (sbF ch d u g)) (u - j) (wrt ((((vl (ch (u - j))) - (d (j))) - v) + (10 * 1)))) mk := okC_fu hC (by omega)
            refine cx_iinc (k := 3) (lv' := [(5, .int (iI (j + 1))), (4, .int (iI (1))), (7, .int (iI (((vl (ch (u - j))) - (d (j))) - v))), (6, .int (iI (vl (ch (u - j))))), (0, .ref (q 10)), (1, .int (iI (u))), (2, .int (iI (k))), (3, .int (iI (g)))]) hx hb d_AR_subtract_91 hl rfl (by decide) rfl (fun ls hl => ?_)
            refine lv_goto (tgt := 6) hx hb d_AR_subtract_94 rfl ?_
            rw [spn_step (F := sbF ch d u g) (by omega) (by unfold sbF; rw [bor_step (by omega), ← hv, hw9, hr9])] at hP hD hC
            exact ih1 (j + 1) 1 _ _ _ (by omega) hC (by rw [bor_step (by omega), ← hv, hw9]) (by omega) hP hD hS (lv_sub hl [0, 1, 4, 5, 6, 7] rfl)
        · refine lv_aload_n hx hb d_AR_subtract_29 rfl (lv_at hl 3 rfl) ?_
          refine va_get (D := D) (ci := 0) (v := .ref (q 11)) (C := R_AR) (T := T_AR) (N := 2) hx hb hT lays_AR hown hK hP 0 rfl rfl 1 (by decide) (hT _ tw_72) (fun _ h9 => h9) rfl d_AR_subtract_30 ?_
          refine lv_iload hx hb d_AR_subtract_33 (lv_at hl 1 rfl) ?_
          refine cx_iald (g := iF d) hx hb hK hP 1 0 rfl rfl (by omega) (by omega) d_AR_subtract_35 ?_
          refine lv_iload hx hb d_AR_subtract_36 (lv_at hl 0 rfl) ?_
          refine cx_isub hx hb d_AR_subtract_38 ?_
          refine lv_goto (tgt := 52) hx hb d_AR_subtract_39 rfl ?_
          refine lv_iload hx hb d_AR_subtract_52 (lv_at hl 2 rfl) ?_
          refine cx_isub hx hb d_AR_subtract_54 ?_
          refine lv_istore (lv' := [(7, .int (iI (((d (j)) - (vl (ch (u - j)))) - v))), (6, .int (iI (vl (ch (u - j))))), (5, .int (iI (j))), (4, .int (iI (v))), (0, .ref (q 10)), (1, .int (iI (u))), (2, .int (iI (k))), (3, .int (iI (g)))]) hx hb d_AR_subtract_55 hl (by decide) rfl (fun ls hl => ?_)
          refine lv_iload hx hb d_AR_subtract_57 (lv_at hl 0 rfl) ?_
          refine cx_if_ge (tgt := 66) hx hb d_AR_subtract_59 rfl (by omega) (fun h59 => ?_) (fun h59 => ?_)
          · refine cx_iconst hx hb d_AR_subtract_66 ?_
            refine lv_istore (lv' := [(4, .int (iI (0))), (7, .int (iI (((d (j)) - (vl (ch (u - j)))) - v))), (6, .int (iI (vl (ch (u - j))))), (5, .int (iI (j))), (0, .ref (q 10)), (1, .int (iI (u))), (2, .int (iI (k))), (3, .int (iI (g)))]) hx hb d_AR_subtract_67 hl (by decide) rfl (fun ls hl => ?_)
            have hr9 : sbR g d (fun i => vl (ch (u - i))) v j = ((d (j)) - (vl (ch (u - j)))) - v := by unfold sbR; rw [if_neg h26]
            have hw9 : (if sbR g d (fun i => vl (ch (u - i))) v j < 0 then (1 : Int) else 0) = 0 := by rw [hr9]; rw [if_neg (by omega)]
            have h3 := wrt_in (v := (((d (j)) - (vl (ch (u - j)))) - v) + 10 * 0) (by omega)
            refine lv_aload_n hx hb d_AR_subtract_69 rfl (lv_at hl 4 rfl) ?_
            refine va_get (D := D) (ci := 0) (v := .ref (q 1)) (C := R_AR) (T := T_AR) (N := 2) hx hb hT lays_AR hown hK hP 0 rfl rfl 0 (by decide) (hT _ tw_71) (fun _ h9 => h9) rfl d_AR_subtract_70 ?_
            refine lv_iload_n hx hb d_AR_subtract_73 rfl (lv_at hl 5 rfl) ?_
            refine lv_iload hx hb d_AR_subtract_74 (lv_at hl 3 rfl) ?_
            refine cx_isub hx hb d_AR_subtract_76 ?_
            refine lv_iload hx hb d_AR_subtract_77 (lv_at hl 1 rfl) ?_
            refine cx_bipush hx hb d_AR_subtract_79 rfl ?_
            refine lv_iload hx hb d_AR_subtract_81 (lv_at hl 0 rfl) ?_
            refine cx_imul hx hb d_AR_subtract_83 ?_
            refine cx_iadd hx hb d_AR_subtract_84 ?_
            refine cx_cI (ws2 := fun _ => arW T q n d (spn ch u j (sbF ch d u g)) mk) (cx_rN (rest := [.int (iI (u - j)), .ref (q 1)]) (As := [.int (iI ((((d (j)) - (vl (ch (u - j)))) - v) + (10 * 0)))]) hx hb hml hown hT hK hN hP hD hl.1 (show (Jvm.Cond.methodLinkNest "CharMachine$Arithmetic" (27 : Nat) ({ cls := "CharMachine", name := "written", desc := "(I)I" } : Jvm.MethodName) "CharMachine") ∈ nwL by decide +kernel) k_CM_written (c_CM_written l D T H.size ((((d (j)) - (vl (ch (u - j)))) - v) + (10 * 0)) (by omega)) ⟨by decide, by decide⟩ ⟨rfl, rfl⟩ [] (by decide) rfl rfl rfl (Nat.le_of_ble_eq_true rfl) ⟨Nat.zero_le _, Nat.zero_le _⟩ d_AR_subtract_85) hP hD hS hA [] [0, 1, 2, 3] [0, 1, 2, 3] rfl (wr := [(q 10, .inr (0, [.ref (q 1), .ref (q 11)])), (q 11, .inl (T 0, n, .inl (fun jj : Nat => (iF d) (jj : Int)))), (q 1, .inr (3, [.ref (q 2)])), (q 2, .inl (T 0, n, .inl (fun jj : Nat => (ceF (spn ch u j (sbF ch d u g)) mk) (jj : Int))))]) rfl (by decide) (by decide) (fun _ => rfl) (by decide) (fun r u_ H locs hq85 hP hD hS => ?_)
            subst hq85
            refine cx_cV (ws2 := fun _ => arW T q n d (fu (spn ch u j (sbF ch d u g)) (u - j) (wrt ((((d (j)) - (vl (ch (u - j)))) - v) + (10 * 0)))) mk) (cx_rV (q0 := 2) (ci := 3) (rest := []) (As := [.int (iI (u - j)), .int (iI (wrt ((((d (j)) - (vl (ch (u - j)))) - v) + (10 * 0))))]) hx hb hml hown hT hK hN hP hD hl.1 tw_386 k_ST_write (c_ST_write l D T H.size q n (spn ch u j (sbF ch d u g)) mk hn hC (u - j) (by omega) (wrt ((((d (j)) - (vl (ch (u - j)))) - v) + (10 * 0))) (by omega)) ⟨by decide, by decide⟩ ⟨rfl, rfl⟩ [2, 3] (by decide) rfl rfl rfl rfl rfl (Nat.le_of_ble_eq_true rfl) ⟨Nat.zero_le _, Nat.zero_le _⟩ d_AR_subtract_88) hP hD hS hA [2, 3] [0, 1] [0, 1, 2, 3] rfl (wr := [(q 10, .inr (0, [.ref (q 1), .ref (q 11)])), (q 11, .inl (T 0, n, .inl (fun jj : Nat => (iF d) (jj : Int))))]) rfl (by decide) (by decide) (fun _ => rfl) (by decide) (fun u_ H locs hq88 hP hD hS => ?_)
            have hC : okC (fu (spn ch u j (sbF ch d u g)) (u - j) (wrt ((((d (j)) - (vl (ch (u - j)))) - v) + (10 * 0)))) mk := okC_fu hC (by omega)
            refine cx_iinc (k := 3) (lv' := [(5, .int (iI (j + 1))), (4, .int (iI (0))), (7, .int (iI (((d (j)) - (vl (ch (u - j)))) - v))), (6, .int (iI (vl (ch (u - j))))), (0, .ref (q 10)), (1, .int (iI (u))), (2, .int (iI (k))), (3, .int (iI (g)))]) hx hb d_AR_subtract_91 hl rfl (by decide) rfl (fun ls hl => ?_)
            refine lv_goto (tgt := 6) hx hb d_AR_subtract_94 rfl ?_
            rw [spn_step (F := sbF ch d u g) (by omega) (by unfold sbF; rw [bor_step (by omega), ← hv, hw9, hr9])] at hP hD hC
            exact ih1 (j + 1) 0 _ _ _ (by omega) hC (by rw [bor_step (by omega), ← hv, hw9]) (by omega) hP hD hS (lv_sub hl [0, 1, 4, 5, 6, 7] rfl)
          · refine cx_iconst hx hb d_AR_subtract_62 ?_
            refine lv_goto (tgt := 67) hx hb d_AR_subtract_63 rfl ?_
            refine lv_istore (lv' := [(4, .int (iI (1))), (7, .int (iI (((d (j)) - (vl (ch (u - j)))) - v))), (6, .int (iI (vl (ch (u - j))))), (5, .int (iI (j))), (0, .ref (q 10)), (1, .int (iI (u))), (2, .int (iI (k))), (3, .int (iI (g)))]) hx hb d_AR_subtract_67 hl (by decide) rfl (fun ls hl => ?_)
            have hr9 : sbR g d (fun i => vl (ch (u - i))) v j = ((d (j)) - (vl (ch (u - j)))) - v := by unfold sbR; rw [if_neg h26]
            have hw9 : (if sbR g d (fun i => vl (ch (u - i))) v j < 0 then (1 : Int) else 0) = 1 := by rw [hr9]; rw [if_pos (by omega)]
            have h3 := wrt_in (v := (((d (j)) - (vl (ch (u - j)))) - v) + 10 * 1) (by omega)
            refine lv_aload_n hx hb d_AR_subtract_69 rfl (lv_at hl 4 rfl) ?_
            refine va_get (D := D) (ci := 0) (v := .ref (q 1)) (C := R_AR) (T := T_AR) (N := 2) hx hb hT lays_AR hown hK hP 0 rfl rfl 0 (by decide) (hT _ tw_71) (fun _ h9 => h9) rfl d_AR_subtract_70 ?_
            refine lv_iload_n hx hb d_AR_subtract_73 rfl (lv_at hl 5 rfl) ?_
            refine lv_iload hx hb d_AR_subtract_74 (lv_at hl 3 rfl) ?_
            refine cx_isub hx hb d_AR_subtract_76 ?_
            refine lv_iload hx hb d_AR_subtract_77 (lv_at hl 1 rfl) ?_
            refine cx_bipush hx hb d_AR_subtract_79 rfl ?_
            refine lv_iload hx hb d_AR_subtract_81 (lv_at hl 0 rfl) ?_
            refine cx_imul hx hb d_AR_subtract_83 ?_
            refine cx_iadd hx hb d_AR_subtract_84 ?_
            refine cx_cI (ws2 := fun _ => arW T q n d (spn ch u j (sbF ch d u g)) mk) (cx_rN (rest := [.int (iI (u - j)), .ref (q 1)]) (As := [.int (iI ((((d (j)) - (vl (ch (u - j)))) - v) + (10 * 1)))]) hx hb hml hown hT hK hN hP hD hl.1 (show (Jvm.Cond.methodLinkNest "CharMachine$Arithmetic" (27 : Nat) ({ cls := "CharMachine", name := "written", desc := "(I)I" } : Jvm.MethodName) "CharMachine") ∈ nwL by decide +kernel) k_CM_written (c_CM_written l D T H.size ((((d (j)) - (vl (ch (u - j)))) - v) + (10 * 1)) (by omega)) ⟨by decide, by decide⟩ ⟨rfl, rfl⟩ [] (by decide) rfl rfl rfl (Nat.le_of_ble_eq_true rfl) ⟨Nat.zero_le _, Nat.zero_le _⟩ d_AR_subtract_85) hP hD hS hA [] [0, 1, 2, 3] [0, 1, 2, 3] rfl (wr := [(q 10, .inr (0, [.ref (q 1), .ref (q 11)])), (q 11, .inl (T 0, n, .inl (fun jj : Nat => (iF d) (jj : Int)))), (q 1, .inr (3, [.ref (q 2)])), (q 2, .inl (T 0, n, .inl (fun jj : Nat => (ceF (spn ch u j (sbF ch d u g)) mk) (jj : Int))))]) rfl (by decide) (by decide) (fun _ => rfl) (by decide) (fun r u_ H locs hq85 hP hD hS => ?_)
            subst hq85
            refine cx_cV (ws2 := fun _ => arW T q n d (fu (spn ch u j (sbF ch d u g)) (u - j) (wrt ((((d (j)) - (vl (ch (u - j)))) - v) + (10 * 1)))) mk) (cx_rV (q0 := 2) (ci := 3) (rest := []) (As := [.int (iI (u - j)), .int (iI (wrt ((((d (j)) - (vl (ch (u - j)))) - v) + (10 * 1))))]) hx hb hml hown hT hK hN hP hD hl.1 tw_386 k_ST_write (c_ST_write l D T H.size q n (spn ch u j (sbF ch d u g)) mk hn hC (u - j) (by omega) (wrt ((((d (j)) - (vl (ch (u - j)))) - v) + (10 * 1))) (by omega)) ⟨by decide, by decide⟩ ⟨rfl, rfl⟩ [2, 3] (by decide) rfl rfl rfl rfl rfl (Nat.le_of_ble_eq_true rfl) ⟨Nat.zero_le _, Nat.zero_le _⟩ d_AR_subtract_88) hP hD hS hA [2, 3] [0, 1] [0, 1, 2, 3] rfl (wr := [(q 10, .inr (0, [.ref (q 1), .ref (q 11)])), (q 11, .inl (T 0, n, .inl (fun jj : Nat => (iF d) (jj : Int))))]) rfl (by decide) (by decide) (fun _ => rfl) (by decide) (fun u_ H locs hq88 hP hD hS => ?_)
            have hC : okC (fu (spn ch u j (sbF ch d u g)) (u - j) (wrt ((((d (j)) - (vl (ch (u - j)))) - v) + (10 * 1)))) mk := okC_fu hC (by omega)
            refine cx_iinc (k := 3) (lv' := [(5, .int (iI (j + 1))), (4, .int (iI (1))), (7, .int (iI (((d (j)) - (vl (ch (u - j)))) - v))), (6, .int (iI (vl (ch (u - j))))), (0, .ref (q 10)), (1, .int (iI (u))), (2, .int (iI (k))), (3, .int (iI (g)))]) hx hb d_AR_subtract_91 hl rfl (by decide) rfl (fun ls hl => ?_)
            refine lv_goto (tgt := 6) hx hb d_AR_subtract_94 rfl ?_
            rw [spn_step (F := sbF ch d u g) (by omega) (by unfold sbF; rw [bor_step (by omega), ← hv, hw9, hr9])] at hP hD hC
            exact ih1 (j + 1) 1 _ _ _ (by omega) hC (by rw [bor_step (by omega), ← hv, hw9]) (by omega) hP hD hS (lv_sub hl [0, 1, 4, 5, 6, 7] rfl)
  rw [← spn_0 ch u (sbF ch d u g)] at hP hD
  exact L1 2001 0 0 _ _ _ (by omega) (by rw [spn_0]; exact hC) rfl (by omega) hP hD hS (lv_sub hl [0, 1, 2, 3, 4, 5] rfl)

set_option maxHeartbeats 4000000 in
set_option maxRecDepth 100000 in
theorem c_AR_isGreater (l : Launch) (D : va_G) (T : Nat → ClassId) (sz : Nat) (q : Nat → Nat) (n : Nat) (d ch mk : Int → Int) (hn : 400 ≤ n ∧ n ≤ 2000) (hC : okC ch mk) (u k : Int) (h_u : 0 ≤ u ∧ u < n) (h_k : 1 ≤ k ∧ k ≤ u + 1) (hd : ∀ i, 0 ≤ i → i < k → 0 ≤ d i ∧ d i < 10) : MI l y_AR_isGreater (wY y_AR_isGreater b_AR_isGreater 5 (some .boolean)) (rmK 1) D vwCl (tyL T) nwL sz [.ref (q 10), .int (iI (u)), .int (iI (k))] (arW T q n d ch mk) (fun r (_ : Unit) => (r = iI 1 ∧ gtr d (fun i => vl (ch (u - i))) k.toNat = 1) ∨ (r = iI 0 ∧ gtr d (fun i => vl (ch (u - i))) k.toNat = 0)) (fun _ => arW T q n d ch mk) := by
  refine cx_inZ (by decide) rfl (Nat.le_of_ble_eq_true rfl) ?_
  intro p e s m below meth cd ls A Q hx hb hml hT hown hret hP hK hD hN hS hA hl
  have hown : s.vm.findClass R_AR = some m.cls := hown
  have hl : lv_has ls 5 [(0, .ref (q 10)), (1, .int (iI (u))), (2, .int (iI (k)))] := hl
  refine lv_iload_n hx hb d_AR_isGreater_0 rfl (lv_at hl 2 rfl) ?_
  refine cx_iconst hx hb d_AR_isGreater_1 ?_
  refine cx_isub hx hb d_AR_isGreater_2 ?_
  refine lv_istore_n (lv' := [(3, .int (iI (k - 1))), (0, .ref (q 10)), (1, .int (iI (u))), (2, .int (iI (k)))]) hx hb d_AR_isGreater_3 rfl hl (by decide) rfl (fun ls hl => ?_)
  have L1 : ∀ (k_ : Nat) (j : Int) (H : Heap) (locs : List Loc) (ls : Array Slot), (-1 ≤ j ∧ j < k ∧ j + 1 < k_) → (gtr d (fun i => vl (ch (u - i))) k.toNat = gtr d (fun i => vl (ch (u - i))) (j + 1).toNat) → va_P D vwCl (arW T q n d ch mk) H → va_D A (arW T q n d ch mk) → va_S A s.heap H locs → lv_has ls 5 [(3, .int (iI (j))), (0, .ref (q 10)), (1, .int (iI (u))), (2, .int (iI (k)))] → W p l e (rmK 1) s m ([.ref (q 10), .int (iI (u)), .int (iI (k))] : List Value).toArray below meth cd H locs 0 0 Q (F0 m 4 ls []) := by
    intro k_
    induction k_ with
    | zero => intro j H locs ls hj hg _ _ _ _; exact absurd hj (by omega)
    | succ k_ ih1 =>
      intro j H locs ls hj hg hP hD hS hl
      refine lv_iload_n hx hb d_AR_isGreater_4 rfl (lv_at hl 0 rfl) ?_
      refine cx_if_lt (tgt := 49) hx hb d_AR_isGreater_5 rfl (by omega) (fun h5 => ?_) (fun h5 => ?_)
      · refine cx_iconst hx hb d_AR_isGreater_49 ?_
        exact hret () (Or.inl rfl) (Or.inr ⟨rfl, by rw [hg, show j + 1 = 0 by omega]; rfl⟩) hP hD hS d_AR_isGreater_50
      · have h1 := hd j (by omega) (by omega)
        have h2 := vl_in (hC.1 (u - j))
        refine lv_aload_n hx hb d_AR_isGreater_8 rfl (lv_at hl 1 rfl) ?_
        refine va_get (D := D) (ci := 0) (v := .ref (q 11)) (C := R_AR) (T := T_AR) (N := 2) hx hb hT lays_AR hown hK hP 0 rfl rfl 1 (by decide) (hT _ tw_72) (fun _ h9 => h9) rfl d_AR_isGreater_9 ?_
        refine lv_iload_n hx hb d_AR_isGreater_12 rfl (lv_at hl 0 rfl) ?_
        refine cx_iald (g := iF d) hx hb hK hP 1 0 rfl rfl (by omega) (by omega) d_AR_isGreater_13 ?_
        refine lv_aload_n hx hb d_AR_isGreater_14 rfl (lv_at hl 1 rfl) ?_
        refine va_get (D := D) (ci := 0) (v := .ref (q 1)) (C := R_AR) (T := T_AR) (N := 2) hx hb hT lays_AR hown hK hP 0 rfl rfl 0 (by decide) (hT _ tw_71) (fun _ h9 => h9) rfl d_AR_isGreater_15 ?_
        refine lv_iload_n hx hb d_AR_isGreater_18 rfl (lv_at hl 2 rfl) ?_
        refine lv_iload_n hx hb d_AR_isGreater_19 rfl (lv_at hl 0 rfl) ?_
        refine cx_isub hx hb d_AR_isGreater_20 ?_
        refine cx_cI (ws2 := fun _ => arW T q n d ch mk) (cx_rV (q0 := 2) (ci := 3) (rest := [.int (iI (d (j)))]) (As := [.int (iI (u - j))]) hx hb hml hown hT hK hN hP hD hl.1 tw_378 k_ST_digit (c_ST_digit l D T H.size q n ch mk hn hC (u - j) (by omega)) ⟨by decide, by decide⟩ ⟨rfl, rfl⟩ [2, 3] (by decide) rfl rfl rfl rfl rfl (Nat.le_of_ble_eq_true rfl) ⟨Nat.zero_le _, Nat.zero_le _⟩ d_AR_isGreater_21) hP hD hS hA [2, 3] [0, 1] [0, 1, 2, 3] rfl (wr := [(q 10, .inr (0, [.ref (q 1), .ref (q 11)])), (q 11, .inl (T 0, n, .inl (fun jj : Nat => (iF d) (jj : Int))))]) rfl (by decide) (by decide) (fun _ => rfl) (by decide) (fun r u_ H locs hq21 hP hD hS => ?_)
        subst hq21
        refine cx_isub hx hb d_AR_isGreater_24 ?_
        refine lv_istore (lv' := [(4, .int (iI ((d (j)) - (vl (ch (u - j)))))), (3, .int (iI (j))), (0, .ref (q 10)), (1, .int (iI (u))), (2, .int (iI (k)))]) hx hb d_AR_isGreater_25 hl (by decide) rfl (fun ls hl => ?_)
        refine lv_iload hx hb d_AR_isGreater_27 (lv_at hl 0 rfl) ?_
        refine cx_if_eq (tgt := 43) hx hb d_AR_isGreater_29 rfl (by omega) (fun h29 => ?_) (fun h29 => ?_)
        · refine cx_iinc (k := 1) (lv' := [(3, .int (iI (j + (-1)))), (4, .int (iI ((d (j)) - (vl (ch (u - j)))))), (0, .ref (q 10)), (1, .int (iI (u))), (2, .int (iI (k)))]) hx hb d_AR_isGreater_43 hl rfl (by decide) rfl (fun ls hl => ?_)
          refine lv_goto (tgt := 4) hx hb d_AR_isGreater_46 rfl ?_
          exact ih1 (j + -1) _ _ _ (by omega) (by rw [hg, gtr_step (by omega), if_pos (by omega), show j + -1 + 1 = j by omega]) hP hD hS (lv_sub hl [0, 2, 3, 4] rfl)
        · refine lv_iload hx hb d_AR_isGreater_32 (lv_at hl 0 rfl) ?_
          refine cx_if_le (tgt := 41) hx hb d_AR_isGreater_34 rfl (by omega) (fun h34 => ?_) (fun h34 => ?_)
          · refine cx_iconst hx hb d_AR_isGreater_41 ?_
            exact hret () (Or.inl rfl) (Or.inr ⟨rfl, by rw [hg, gtr_step (by omega), if_neg (by omega), if_neg (by omega)]⟩) hP hD hS d_AR_isGreater_42
          · refine cx_iconst hx hb d_AR_isGreater_37 ?_
            refine lv_goto (tgt := 42) hx hb d_AR_isGreater_38 rfl ?_
            exact hret () (Or.inr rfl) (Or.inl ⟨rfl, by rw [hg, gtr_step (by omega), if_neg (by omega), if_pos (by omega)]⟩) hP hD hS d_AR_isGreater_42
  exact L1 2001 (k - 1) _ _ _ (by omega) (by rw [show k - 1 + 1 = k by omega]) hP hD hS (lv_sub hl [0, 1, 2, 3] rfl)
end
