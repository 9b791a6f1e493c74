/-! calls: the words of a callee, and one row a call -/
abbrev tyL (T : Nat → ClassId) : List (ClassId × FieldType) := [(T 0, .int), (T 1, .byte), (T 2, .boolean), (T 3, .long)]
abbrev rmK (k : Nat) : Room := { frames := k, cells := 0, slots := 0, locals := 40 * k }
abbrev wY (y : MethodName) (b : ByteArray) (n : Nat) (r : Option FieldType) : List Cond := Cond.code y b n r :: BIG
theorem nwL_ok : nwL.all cx_isN = true := by decide +kernel
theorem big_good {c : Cond} (h : c ∈ BIG) : GoodIn BIG (c :: BIG) := fun w hw => by
  have hm : w ∈ BIG := by
    rcases List.mem_cons.mp hw with rfl | h1
    · exact h
    · exact h1
  exact ⟨hm, good_of_word (List.mem_filter.mp hm).2⟩
abbrev okD (y : MethodName) (n : Nat) : Prop := y.cls ≠ "java/lang/invoke/MethodHandle" ∧ y.cls ≠ "java/lang/invoke/VarHandle" ∧ (parseMethodDescriptor y.desc).map (fun d => d.parameters.length) = some n
def okV (C : String) (y : MethodName) (b : ByteArray) (k : Nat) (r : Option FieldType) (n : Nat) : Prop := Cond.code y b k r ∈ BIG ∧ Cond.instanceMethod y ∈ BIG ∧ Cond.selects C y y ∈ BIG ∧ Cond.initialized y.cls ∈ BIG ∧ okD y n
def okS (y : MethodName) (b : ByteArray) (k : Nat) (r : Option FieldType) (n : Nat) : Prop := Cond.code y b k r ∈ BIG ∧ Cond.static y ∈ BIG ∧ Cond.initialized y.cls ∈ BIG ∧ okD y n
def okI (y : MethodName) (b : ByteArray) (k : Nat) (n : Nat) : Prop := Cond.code y b k none ∈ BIG ∧ Cond.instanceMethod y ∈ BIG ∧ Cond.initialized y.cls ∈ BIG ∧ y.name = "<init>" ∧ okD y n
section CX4
variable {p : Program} {l : Launch} {e : Env} {R : Room} {s : State} {m : MethodId} {args : Array Value} {below : List Frame} {meth : Method} {c : Code} {H : Heap} {locs : List Loc} {cells slots : Nat} {Q : State → Prop}
variable {cc bytes : ByteArray} {pc nL maxL n index : Nat} {ls : Array Slot} {rest st0 As : List Value} {D : va_G} {A : Nat → Prop} {T : Nat → ClassId} {ws wc wr : va_W} {H0 : Heap} {own C : String} {y : MethodName} {ret : Option FieldType} {rm : Room} {b : Nat} {Qc : Array Value → State → Outcome → State → Prop} {free : Addr → Prop} {Pc : Array Value → State → Prop} {mc ms : Nat}
theorem cx_wV (hT : ∀ w ∈ BIG, w.before args s = true) (hl : Cond.methodLink own index y ∈ BIG) (k : okV C y bytes maxL ret n) (hR : rm.frames + 1 ≤ R.frames ∧ 8 + (maxL + 11) + rm.locals ≤ R.locals) (hc : rm.cells = mc ∧ rm.slots = ms) : CallW R s args own C index y bytes maxL ret (wY y bytes maxL ret) rm mc ms n :=
  ⟨callB_of n hT (big_good k.1) rfl hc.1 hc.2 (hT _ k.2.2.2.1) (hT _ hl) k.2.2.2.2 hR, hT _ k.2.1, hT _ k.2.2.1⟩
theorem cx_wS (hT : ∀ w ∈ BIG, w.before args s = true) (hl : Cond.methodLink own index y ∈ BIG) (k : okS y bytes maxL ret n) (hR : rm.frames + 1 ≤ R.frames ∧ 8 + (maxL + 11) + rm.locals ≤ R.locals) (hc : rm.cells = mc ∧ rm.slots = ms) : CallB R s args own index y bytes maxL ret (wY y bytes maxL ret) rm mc ms n ∧ (Cond.static y).before args s = true :=
  ⟨callB_of n hT (big_good k.1) rfl hc.1 hc.2 (hT _ k.2.2.1) (hT _ hl) k.2.2.2 hR, hT _ k.2.1⟩
theorem cx_wI (hT : ∀ w ∈ BIG, w.before args s = true) (hl : Cond.methodLink own index y ∈ BIG) (k : okI y bytes maxL n) (hR : rm.frames + 1 ≤ R.frames ∧ 8 + (maxL + 11) + rm.locals ≤ R.locals) (hc : rm.cells = mc ∧ rm.slots = ms) : CallB R s args own index y bytes maxL none (wY y bytes maxL none) rm mc ms n ∧ y.name = "<init>" ∧ (Cond.instanceMethod y).before args s = true :=
  ⟨callB_of n hT (big_good k.1) rfl hc.1 hc.2 (hT _ k.2.2.1) (hT _ hl) k.2.2.2.2 hR, k.2.2.2.1, hT _ k.2.1⟩
theorem cx_wSN {host : String} (hT : ∀ w ∈ BIG, w.before args s = true) (hN : cx_N nwL s) (hl : Cond.methodLinkNest own index y host ∈ nwL) (k : okS y bytes maxL ret n) (hR : rm.frames + 1 ≤ R.frames ∧ 8 + (maxL + 11) + rm.locals ≤ R.locals) (hc : rm.cells = mc ∧ rm.slots = ms) : va_CN R s args own index y host bytes maxL ret (wY y bytes maxL ret) rm mc ms n ∧ (Cond.static y).before args s = true ∧ True :=
  ⟨va_cnB n hT (big_good k.1) rfl hc.1 hc.2 (hN _ hl) (hT _ k.2.2.1) k.2.2.2 hR, hT _ k.2.1, trivial⟩
/-- a call of a method on an object, of a static one, of a nest mate's static one: how it runs -/
theorem cx_rV {q0 ci : Nat} {r : vw_C} {fs : List Value} (hx : p.tables.exec = Jvm.exec) (hb : c.code = cc) (hml : c.maxLocals = nL) (hown : s.vm.findClass own = some m.cls) (hT : ∀ w ∈ BIG, w.before args s = true) (hK : va_K D vwCl (tyL T) s) (hN : cx_N nwL s) (hP : va_P D vwCl ws H) (hD : va_D A ws)
    (hls : ls.size = nL) (hl : Cond.methodLink own index y ∈ BIG) (k : okV r.1 y bytes maxL ret n) (hM : Met l y (wY y bytes maxL ret) rm (va_Pc (.ref b :: As) (cx_B D vwCl (tyL T) nwL H.size wc)) Qc 0 0 free) (hR : rm.frames + 1 ≤ R.frames ∧ 8 + (maxL + 11) + rm.locals ≤ R.locals) (hc : rm.cells = 0 ∧ rm.slots = 0)
    (isC : List Nat) (hnC : va_nd isC = true) (hC : isC.map (fun i => ws[i]?) = wc.map some) (hci : vwCl[ci]? = some r) (he : ws[q0]? = some (b, .inr (ci, fs))) (hn : As.length = n) (hst : st0 = As.reverse ++ .ref b :: rest) (hcat : (rest.map fun v => v.category).sum ≤ 8) (hf : cells ≤ R.cells ∧ slots ≤ R.slots) (hdg : decode cc pc = .ok (.invokevirtual index, 3)) :
    va_Run p l e R s m args below meth c H locs cells slots 0 0 (F0 m pc ls st0) rest (Qc (Value.ref b :: As).toArray) free :=
  va_runV ⟨hx, hb, hml, hown, hT⟩ hM (cx_wV hT hl k hR hc) (cx_pV nwL_ok hK hN hP hD isC hnC hC hci he) rfl hn hls hst (lv_room hcat) hdg hf
theorem cx_rS (hx : p.tables.exec = Jvm.exec) (hb : c.code = cc) (hml : c.maxLocals = nL) (hown : s.vm.findClass own = some m.cls) (hT : ∀ w ∈ BIG, w.before args s = true) (hK : va_K D vwCl (tyL T) s) (hN : cx_N nwL s) (hP : va_P D vwCl ws H) (hD : va_D A ws)
    (hls : ls.size = nL) (hl : Cond.methodLink own index y ∈ BIG) (k : okS y bytes maxL ret n) (hM : Met l y (wY y bytes maxL ret) rm (va_Pc As (cx_B D vwCl (tyL T) nwL H.size wc)) Qc 0 0 free) (hR : rm.frames + 1 ≤ R.frames ∧ 8 + (maxL + 11) + rm.locals ≤ R.locals) (hc : rm.cells = 0 ∧ rm.slots = 0)
    (isC : List Nat) (hnC : va_nd isC = true) (hC : isC.map (fun i => ws[i]?) = wc.map some) (hn : As.length = n) (hst : st0 = As.reverse ++ rest) (hcat : (rest.map fun v => v.category).sum ≤ 8) (hf : cells ≤ R.cells ∧ slots ≤ R.slots) (hdg : decode cc pc = .ok (.invokestatic index, 3)) :
    va_Run p l e R s m args below meth c H locs cells slots 0 0 (F0 m pc ls st0) rest (Qc As.toArray) free :=
  va_runS ⟨hx, hb, hml, hown, hT⟩ hM (cx_wS hT hl k hR hc) (cx_pS nwL_ok hK hN hP hD isC hnC hC) rfl hn hls hst (lv_room hcat) hdg hf
theorem cx_rN {host : String} (hx : p.tables.exec = Jvm.exec) (hb : c.code = cc) (hml : c.maxLocals = nL) (hown : s.vm.findClass own = some m.cls) (hT : ∀ w ∈ BIG, w.before args s = true) (hK : va_K D vwCl (tyL T) s) (hN : cx_N nwL s) (hP : va_P D vwCl ws H) (hD : va_D A ws)
    (hls : ls.size = nL) (hl : Cond.methodLinkNest own index y host ∈ nwL) (k : okS y bytes maxL ret n) (hM : Met l y (wY y bytes maxL ret) rm (va_Pc As (cx_B D vwCl (tyL T) nwL H.size wc)) Qc 0 0 free) (hR : rm.frames + 1 ≤ R.frames ∧ 8 + (maxL + 11) + rm.locals ≤ R.locals) (hc : rm.cells = 0 ∧ rm.slots = 0)
    (isC : List Nat) (hnC : va_nd isC = true) (hC : isC.map (fun i => ws[i]?) = wc.map some) (hn : As.length = n) (hst : st0 = As.reverse ++ rest) (hcat : (rest.map fun v => v.category).sum ≤ 8) (hf : cells ≤ R.cells ∧ slots ≤ R.slots) (hdg : decode cc pc = .ok (.invokestatic index, 3)) :
    va_Run p l e R s m args below meth c H locs cells slots 0 0 (F0 m pc ls st0) rest (Qc As.toArray) free :=
  va_runSN ⟨hx, hb, hml, hown, hT⟩ hM (cx_wSN hT hN hl k hR hc) (cx_pS nwL_ok hK hN hP hD isC hnC hC) rfl hn hls hst (lv_room hcat) hdg hf
end CX4
