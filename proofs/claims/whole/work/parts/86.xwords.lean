/-! the words of the exceptions that CharMachine throws -/
abbrev xC : String := "CharMachine"
abbrev xIA : String := "java/lang/IllegalArgumentException"
abbrev xIS : String := "java/lang/IllegalStateException"
abbrev xIO : String := "java/lang/IndexOutOfBoundsException"
abbrev xUO : String := "java/lang/UnsupportedOperationException"
abbrev xN : List String := ["java/lang/RuntimeException", "java/lang/Exception"]
/-- those that are not kept word for word: premises of their own -/
abbrev xB : List Cond := [Cond.castable xIA xIA, Cond.castable xIS xIS, Cond.castable xIO xIO, Cond.castable xUO xUO, .declares (Bundle.init0 "java/lang/RuntimeException"), .declares (Bundle.init0 "java/lang/Exception"), .declares (Bundle.init0 Bundle.tN)]
theorem xo_IA : ∀ w ∈ Cond.classLink xC 61 xIA :: Cond.initialized xIA :: vx_at0 xC 63 xIA xN, vx_ot w = true := by decide +kernel
theorem xg_IA : ∀ w ∈ (vx_at0 xC 63 xIA xN).filter goodWord, w ∈ BIG := by decide +kernel
theorem xb_IA : ∀ w ∈ (vx_at0 xC 63 xIA xN).filter (fun w => !goodWord w), w ∈ xB := by decide +kernel
theorem xk_IA : Cond.classLink xC 61 xIA ∈ BIG ∧ Cond.initialized xIA ∈ BIG := by decide +kernel
theorem xo_IS : ∀ w ∈ Cond.classLink xC 75 xIS :: Cond.initialized xIS :: vx_at0 xC 77 xIS xN, vx_ot w = true := by decide +kernel
theorem xg_IS : ∀ w ∈ (vx_at0 xC 77 xIS xN).filter goodWord, w ∈ BIG := by decide +kernel
theorem xb_IS : ∀ w ∈ (vx_at0 xC 77 xIS xN).filter (fun w => !goodWord w), w ∈ xB := by decide +kernel
theorem xk_IS : Cond.classLink xC 75 xIS ∈ BIG ∧ Cond.initialized xIS ∈ BIG := by decide +kernel
theorem xo_IO : ∀ w ∈ Cond.classLink xC 97 xIO :: Cond.initialized xIO :: vx_at0 xC 99 xIO xN, vx_ot w = true := by decide +kernel
theorem xg_IO : ∀ w ∈ (vx_at0 xC 99 xIO xN).filter goodWord, w ∈ BIG := by decide +kernel
theorem xb_IO : ∀ w ∈ (vx_at0 xC 99 xIO xN).filter (fun w => !goodWord w), w ∈ xB := by decide +kernel
theorem xk_IO : Cond.classLink xC 97 xIO ∈ BIG ∧ Cond.initialized xIO ∈ BIG := by decide +kernel
theorem xo_UO : ∀ w ∈ Cond.classLink xC 133 xUO :: Cond.initialized xUO :: vx_at0 xC 135 xUO xN, vx_ot w = true := by decide +kernel
theorem xg_UO : ∀ w ∈ (vx_at0 xC 135 xUO xN).filter goodWord, w ∈ BIG := by decide +kernel
theorem xb_UO : ∀ w ∈ (vx_at0 xC 135 xUO xN).filter (fun w => !goodWord w), w ∈ xB := by decide +kernel
theorem xk_UO : Cond.classLink xC 133 xUO ∈ BIG ∧ Cond.initialized xUO ∈ BIG := by decide +kernel
