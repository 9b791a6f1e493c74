/-! constructors; calls of methods that throw; methods with handlers -/
abbrev rmN (k mc ms : Nat) : Room := { frames := k, cells := mc, slots := ms, locals := 40 * k }
/-- contracts of constructors: mc cells of ms slots are made -/
abbrev MN (l : Launch) (y : MethodName) (ws : List Cond) (rm : Room) (D : va_G) (cl : List vw_C) (tys : List (ClassId × FieldType)) (nw : List Cond) (sz : Nat) (av : List Value) (wc : va_W) {S : Type} (post : S → Prop) (wn : S → va_W) (mc ms : Nat) : Prop := Met l y ws rm (va_Pc av (cx_B D cl tys nw sz wc)) (cxV D cl post wn (va_A wc sz)) mc ms (va_A wc sz)
section CXN
variable {l : Launch} {y : MethodName} {ws ws' : List Cond} {rm : Room} {D : va_G} {cl : List vw_C} {tys : List (ClassId × FieldType)} {nw : List Cond} {sz : Nat} {wc : va_W} {av : List Value} {cc : ByteArray} {maxL mc ms : Nat}
theorem cx_inN {S : Type} {post : S → Prop} {wn : S → va_W} (hy : plainName y.cls = true) (hw : ws = Cond.code y cc maxL none :: ws') (hn : (lg_sl av).length ≤ maxL)
    (body : ∀ (p : Program) (e : Env) (s : State) (m : MethodId) (below : List Frame) (meth : Method) (c : Code) (ls : Array Slot) (A : Nat → Prop) (Q : State → Prop), p.tables.exec = Jvm.exec → c.code = cc → c.maxLocals = maxL → (∀ w ∈ ws', w.before av.toArray s = true) → s.vm.findClass y.cls = some m.cls → meth.name = y.name →
      (∀ {H : Heap} {locs : List Loc} {ls : Array Slot} {pc cells slots : Nat} (u : S), cells ≤ mc → slots ≤ ms → post u → va_P D cl (wn u) H → va_D A (wn u) → va_S A s.heap H locs → decode cc pc = .ok (.return_, 1) → W p l e rm s m av.toArray below meth c H locs cells slots Q (F0 m pc ls [])) →
      va_P D cl wc s.heap → va_K D cl tys s → va_D A wc → cx_N nw s → va_S A s.heap s.heap [] → (∀ q : Nat, s.heap.size ≤ q → A q) → lv_has ls maxL (lv_args 0 av) → W p l e rm s m av.toArray below meth c s.heap [] 0 0 Q (F0 m 0 ls [])) :
    MN l y ws rm D cl tys nw sz av wc post wn mc ms :=
  cx_in (Qf := fun A => cxV D cl post wn A) hy hw hn (fun p e s m below meth c ls A hx hb hr hml hts hown hlocks hnm hP hK hD hN hS hA hl => body p e s m below meth c ls A _ hx hb hml hts hown hnm (fun u h1 h2 hq hP hD hS hdg => W.widen h1 h2 (cx_vret hx hb hr hlocks u hq hP hD hS hdg)) hP hK hD hN hS hA hl)
end CXN
/-! the two statics of Throwable, the words that are kept otherwise: at a callee's start -/
theorem xB_warm {s U : State} (hW : s.WarmedH U.vm) (h : ∀ w ∈ xB, va_Nw w s) : ∀ w ∈ xB, va_Nw w U := by
  intro w hw
  have h1 := h w hw
  rcases List.mem_cons.mp hw with rfl | hw
  · exact va_Nw.warmC hW h1
  rcases List.mem_cons.mp hw with rfl | hw
  · exact va_Nw.warmC hW h1
  rcases List.mem_cons.mp hw with rfl | hw
  · exact va_Nw.warmC hW h1
  rcases List.mem_cons.mp hw with rfl | hw
  · exact va_Nw.warmC hW h1
  rcases List.mem_cons.mp hw with rfl | hw
  · exact va_Nw.warmD hW h1
  rcases List.mem_cons.mp hw with rfl | hw
  · exact va_Nw.warmD hW h1
  rcases List.mem_cons.mp hw with rfl | hw
  · exact va_Nw.warmD hW h1
  · exact absurd hw List.not_mem_nil
theorem cx_Yat {A A' : Nat → Prop} {s U : State} {H : Heap} (hW : s.WarmedH U.vm) (hU : U.heap = H) (hY : cx_Y A s) (hk : ∀ a : Nat, a < s.heap.size → ¬ A a → H[a]? = s.heap[a]?) (hA : ∀ q, A' q → A q) : cx_Y A' U := by
  obtain ⟨h1, h2, h3⟩ := hY
  subst hU
  exact ⟨vx_Zq.moved hW.alike (vx_Zq.narrow (vx_Zq.kept h1 hk) hA), vx_Zq.moved hW.alike (vx_Zq.narrow (vx_Zq.kept h2 hk) hA), xB_warm hW h3⟩
def cx_Z (A : Nat → Prop) (U : State) : Prop := cx_Y A U ∧ va_Nc xUO xIO U
def cx_BZ (D : va_G) (cl : List vw_C) (tys : List (ClassId × FieldType)) (nw : List Cond) (sz : Nat) (wc : va_W) (U : State) : Prop := cx_B D cl tys nw sz wc U ∧ cx_Z (va_A wc sz) U
theorem cx_blindZ {D : va_G} {cl : List vw_C} {tys : List (ClassId × FieldType)} {nw : List Cond} {sz : Nat} {wc : va_W} {av : List Value} (hnw : nw.all cx_isN = true) : FrameBlind (va_Pc av (cx_BZ D cl tys nw sz wc)) := fun a U g mk q => by
  obtain ⟨q0, qB, qY, qC⟩ := q
  have h := cx_blindX (D := D) (cl := cl) (tys := tys) (sz := sz) (wc := wc) (av := av) hnw a U g mk ⟨q0, qB, qY⟩
  exact ⟨h.1, h.2.1, h.2.2, va_Nc.moved (u := U) (U := U.calling g mk a) (Vm.Alike.refl U.vm) qC⟩
/-- nothing is thrown -/
abbrev cx_XF : String → State → State → Prop := vx_X (fun _ : Unit => False) (fun _ _ _ => True) (fun _ => False)
abbrev wH (y : MethodName) (b : ByteArray) (n : Nat) (r : Option FieldType) (hh : List (Nat × Nat × Nat × Nat)) : List Cond := Cond.codeWith y b n r hh :: BIG
section CXH
variable {l : Launch} {y : MethodName} {ws : List Cond} {rm : Room} {D : va_G} {cl : List vw_C} {tys : List (ClassId × FieldType)} {nw : List Cond} {sz : Nat} {wc : va_W} {av : List Value} {cc : ByteArray} {maxL : Nat} {hh : List (Nat × Nat × Nat × Nat)}
/-- contracts of the law's helpers: they catch what is thrown, and answer an int -/
abbrev MH (l : Launch) (y : MethodName) (ws : List Cond) (rm : Room) (D : va_G) (cl : List vw_C) (tys : List (ClassId × FieldType)) (nw : List Cond) (sz : Nat) (av : List Value) (wc : va_W) {S : Type} (post : Int32 → S → Prop) (wn : S → va_W) : Prop := vx_Met l y ws rm (va_Pc av (cx_BZ D cl tys nw sz wc)) (cxI D cl post wn (va_A wc sz)) cx_XF 1 6 (va_A wc sz)
theorem cx_inH {S : Type} {post : Int32 → S → Prop} {wn : S → va_W} (hy : plainName y.cls = true) (hw : ws = Cond.codeWith y cc maxL (some .int) hh :: BIG) (hn : (lg_sl av).length ≤ maxL)
    (body : ∀ (p : Program) (e : Env) (s : State) (m : MethodId) (below : List Frame) (meth : Method) (c : Code) (ls : Array Slot) (A : Nat → Prop) (Q : State → Prop), p.tables.exec = Jvm.exec → c.code = cc → c.maxLocals = maxL → (∀ w ∈ BIG, w.before av.toArray s = true) → s.vm.findClass y.cls = some m.cls → c.exceptionTable.toList = tableOf hh → cx_Z A s →
      (∀ {H : Heap} {locs : List Loc} {ls : Array Slot} {pc cells slots : Nat} {v : Int32} (u : S), cells ≤ 1 → slots ≤ 6 → post v u → va_P D cl (wn u) H → va_D A (wn u) → va_S A s.heap H locs → decode cc pc = .ok (.ireturn, 1) → W p l e rm s m av.toArray below meth c H locs cells slots Q (F0 m pc ls [.int v])) →
      va_P D cl wc s.heap → va_K D cl tys s → va_D A wc → cx_N nw s → va_S A s.heap s.heap [] → (∀ q : Nat, s.heap.size ≤ q → A q) → lv_has ls maxL (lv_args 0 av) → W p l e rm s m av.toArray below meth c s.heap [] 0 0 Q (F0 m 0 ls [])) :
    MH l y ws rm D cl tys nw sz av wc post wn := by
  refine vx_ofWH (cc := cc) (maxL := maxL) (ret := some .int) (hh := hh) hy hw ?_
  intro p e s m args below meth c s₁ B hml hv
  obtain ⟨rfl, ⟨rfl, hP, hK, hD0, hN⟩, hZ⟩ := hv
  have hl := lv_entry av (n := maxL) hn
  rw [lg_entry_eq]
  generalize (lg_sl av ++ List.replicate (maxL - (lg_sl av).length) Slot.unset).toArray = ls at hl ⊢
  have hT1 : ∀ w ∈ ws, w.before av.toArray s = true := fun w h => atoms_spec (ws := ws) B.pre w h
  have hT : ∀ w ∈ BIG, w.before av.toArray s = true := fun w h => hT1 w (by rw [hw]; exact List.mem_cons_of_mem _ h)
  have htab : c.exceptionTable.toList = tableOf hh := vx_table (x := y) B (hT1 _ (by rw [hw]; exact List.mem_cons_self))
  exact body p e s m below meth c ls (va_A wc s.heap.size) _ B.exec B.bytes hml hT (findClass_of_methodNamed B.named) htab hZ
    (fun u h1 h2 hq hP hD hS hdg => vx_ret (W.widen h1 h2 (cx_iret B.exec B.bytes B.returns B.notSynchronized u hq hP hD hS hdg)))
    hP hK (hD0.self) hN va_S.rf (fun q h => Or.inr h) hl
end CXH
section CXM
variable {p : Program} {l : Launch} {e : Env} {R : Room} {s : State} {m : MethodId} {args : Array Value} {below : List Frame} {meth : Method} {c : Code} {H : Heap} {locs : List Loc} {cells slots : Nat} {Q : State → Prop}
variable {cc bytes : ByteArray} {pc nL maxL n index : Nat} {ls : Array Slot} {rest st0 As : List Value} {D : va_G} {A : Nat → Prop} {T : Nat → ClassId} {ws wc wr : va_W} {H0 : Heap} {own C : String} {y : MethodName} {ret : Option FieldType} {rm : Room} {b : Nat} {Qc : Array Value → State → Outcome → State → Prop} {XC : String → State → State → Prop} {free : Addr → Prop} {Pc : Array Value → State → Prop} {mc ms : Nat} {cl : List vw_C} {tys : List (ClassId × FieldType)} {nw : List Cond} {th : String → Prop}
/-- a constructor's call -/
theorem cx_rI (hx : p.tables.exec = Jvm.exec) (hb : c.code = cc) (hml : c.maxLocals = nL) (hown : s.vm.findClass own = some m.cls) (hT : ∀ w ∈ BIG, w.before args s = true) (hK : va_K D vwCl (tyL T) s) (hN : cx_N nwL s) (hP : va_P D vwCl ws H) (hD : va_D A ws)
    (hls : ls.size = nL) (hl : Cond.methodLink own index y ∈ BIG) (k : okI y bytes maxL n) (hM : Met l y (wY y bytes maxL none) rm (va_Pc (.ref b :: As) (cx_B D vwCl (tyL T) nwL H.size wc)) Qc mc ms free) (hR : rm.frames + 1 ≤ R.frames ∧ 8 + (maxL + 11) + rm.locals ≤ R.locals) (hc : rm.cells = mc ∧ rm.slots = ms)
    (isC : List Nat) (hnC : va_nd isC = true) (hC : isC.map (fun i => ws[i]?) = wc.map some) (hn : As.length = n) (hst : st0 = As.reverse ++ .ref b :: rest) (hcat : (rest.map fun v => v.category).sum ≤ 8) (hf : cells + mc ≤ R.cells ∧ slots + ms ≤ R.slots) (hdg : decode cc pc = .ok (.invokespecial index, 3)) :
    va_Run p l e R s m args below meth c H locs cells slots mc ms (F0 m pc ls st0) rest (Qc (Value.ref b :: As).toArray) free :=
  va_runI ⟨hx, hb, hml, hown, hT⟩ hM (cx_wI hT hl k hR hc) (cx_pS nwL_ok hK hN hP hD isC hnC hC) rfl hn hls hst (lv_room hcat) hdg hf
theorem cx_cN {S : Type} {post : S → Prop} {wn ws2 : S → va_W} {a : Array Value} (hr : va_Run p l e R s m args below meth c H locs cells slots mc ms (F0 m pc ls st0) rest (cxV D cl post wn (va_A wc H.size) a) (va_A wc H.size)) (hP : va_P D cl ws H) (hD : va_D A ws) (hS : va_S A H0 H locs) (hA : ∀ q, H0.size ≤ q → A q)
    (isC isR pm : List Nat) (hC : isC.map (fun i => ws[i]?) = wc.map some) (hR : isR.map (fun i => ws[i]?) = wr.map some) (hn : va_nd isR = true) (hdis : ∀ i ∈ isR, i ∉ isC) (hpm : ∀ u, pm.map (fun i => (wr ++ wn u)[i]?) = (ws2 u).map some) (hpn : va_nd pm = true)
    (kk : ∀ (u : S) (H1 : Heap) (locs1 : List Loc), post u → va_P D cl (ws2 u) H1 → va_D A (ws2 u) → va_S A H0 H1 locs1 → W p l e R s m args below meth c H1 locs1 (cells + mc) (slots + ms) Q (F0 m (pc + 3) ls rest)) : W p l e R s m args below meth c H locs cells slots Q (F0 m pc ls st0) := by
  have hFc := va_free (wc := wc) hD hS hA isC hC
  refine va_callv hr hS (fun q _ h => hFc q h) hFc (fun u t H1 locs1 ht hvm hq hB hz hk hS1 => ?_)
  obtain ⟨hP1, hD1⟩ := hB
  rw [ht] at hP1
  obtain ⟨hP2, hD2⟩ := va_join (wr := wr) (w1 := wn u) hP hD isC isR hC hR hn hdis hk hFc hP1 hD1
  exact kk u H1 locs1 hq (cx_sub hP2 pm (hpm u)) (hD2.sub pm hpn (hpm u)) hS1
/-- Object's constructor -/
theorem cx_obj (hx : p.tables.exec = Jvm.exec) (hb : c.code = cc) (hml : c.maxLocals = nL) (hls : ls.size = nL) (hown : s.vm.findClass own = some m.cls) (hT : ∀ w ∈ BIG, w.before args s = true) (hl : Cond.methodLink own index Lib.objectInit ∈ BIG) (hR : 1 ≤ R.frames ∧ 20 ≤ R.locals) (hcat : (rest.map fun v => v.category).sum ≤ 8) (hdg : decode cc pc = .ok (.invokespecial index, 3))
    (kk : W p l e R s m args below meth c H locs cells slots Q (F0 m (pc + 3) ls rest)) : W p l e R s m args below meth c H locs cells slots Q (F0 m pc ls (.ref b :: rest)) :=
  W.objInit hx hb hown (hT _ hl) (hT _ tw_23) (hT _ tw_24) rfl (hls.trans hml.symm) rfl hdg hR.1 (Nat.le_trans (Nat.add_le_add_right (lv_room (m := m) (pc := pc) (ls := ls) hcat) 12) hR.2) kk
/-- a fresh array of numbers -/
theorem cx_newg (hx : p.tables.exec = Jvm.exec) (hb : c.code = cc) {atype : ArrayType} {ty : FieldType} (hty : newarray.typeOf atype = ty) (hdef : defaultValue ty = .int 0) (hcb : componentBytes ty ≤ 8) (harr : (Cond.arrayClass (newarray.typeOf atype)).before args s = true) (hK : va_K D vwCl (tyL T) s) (hP : va_P D vwCl ws H) (hD : va_D A ws) (hS : va_S A H0 H locs) (hA : ∀ q, H0.size ≤ q → A q)
    (t0 : Nat) {cT : ClassId} (ht : (tyL T)[t0]? = some (cT, ty)) (hp : ∀ (U : State) (cA : ClassId), va_RA U cA ty → U.vm.findClass ("[" ++ ty.toString) = some cA) {z : Int} {N : Nat} (hz : z = (N : Int)) (hN : N ≤ 100000) (g : Int → Int32) (hg : ∀ j : Int, g j = 0) (hcells : cells + 1 ≤ R.cells) (hslots : slots + N ≤ R.slots) (hdg : decode cc pc = .ok (.newarray atype, 2))
    (kk : ∀ (q : Nat) (H1 : Heap), va_P D vwCl (ws ++ [(q, .inl (cT, N, .inl (fun jj : Nat => g (jj : Int))))]) H1 → va_D A (ws ++ [(q, .inl (cT, N, .inl (fun jj : Nat => g (jj : Int))))]) → va_S A H0 H1 locs → W p l e R s m args below meth c H1 locs (cells + 1) (slots + N) Q (F0 m (pc + 2) ls (.ref q :: rest))) : W p l e R s m args below meth c H locs cells slots Q (F0 m pc ls (.int (iI z) :: rest)) := by
  subst hz
  refine va_newa (a0 := (N, .inl (fun jj : Nat => g (jj : Int)))) hx hb harr hty hK hP hD hS hA (fun cA => ?_) (iI_nneg (by omega)) (by rw [iI_clamp (by omega)]; rfl) ?_ hcells hslots hdg (fun q cA H1 hK2 hP2 hD2 hS2 => ?_)
  · rw [vp_cell_i, hdef]
    congr 1
    funext j
    rw [hg]
  · exact Nat.le_trans (Nat.mul_le_mul hN hcb) (by decide)
  · have h1 := hp s cT (hK.2 t0 _ ht).2
    have h2 := hp s cA (hK2.2 4 (cA, ty) rfl).2
    rw [h1] at h2
    cases h2
    exact kk q H1 hP2 hD2 hS2
theorem cx_newl (hx : p.tables.exec = Jvm.exec) (hb : c.code = cc) (harr : (Cond.arrayClass .long).before args s = true) (hK : va_K D vwCl (tyL T) s) (hP : va_P D vwCl ws H) (hD : va_D A ws) (hS : va_S A H0 H locs) (hA : ∀ q, H0.size ≤ q → A q)
    {z : Int} {N : Nat} (hz : z = (N : Int)) (hN : N ≤ 100000) (hcells : cells + 1 ≤ R.cells) (hslots : slots + N ≤ R.slots) (hdg : decode cc pc = .ok (.newarray .long, 2))
    (kk : ∀ (q : Nat) (H1 : Heap), va_P D vwCl (ws ++ [(q, .inl (T 3, N, .inr (.inl (fun _ : Nat => 0))))]) H1 → va_D A (ws ++ [(q, .inl (T 3, N, .inr (.inl (fun _ : Nat => 0))))]) → va_S A H0 H1 locs → W p l e R s m args below meth c H1 locs (cells + 1) (slots + N) Q (F0 m (pc + 2) ls (.ref q :: rest))) : W p l e R s m args below meth c H locs cells slots Q (F0 m pc ls (.int (iI z) :: rest)) := by
  subst hz
  refine va_newa (atype := .long) (ty := .long) (a0 := (N, .inr (.inl (fun _ : Nat => 0)))) hx hb harr rfl hK hP hD hS hA (fun cA => rfl) (iI_nneg (by omega)) (by rw [iI_clamp (by omega)]; rfl) (Nat.le_trans (Nat.mul_le_mul hN (show componentBytes .long ≤ 8 by decide)) (by decide)) hcells hslots hdg (fun q cA H1 hK2 hP2 hD2 hS2 => ?_)
  have h1 : s.vm.findClass _ = some (T 3) := (hK.2 3 (T 3, .long) rfl).2
  have h2 : s.vm.findClass _ = some cA := (hK2.2 4 (cA, .long) rfl).2
  rw [h1] at h2
  cases h2
  exact kk q H1 hP2 hD2 hS2
/-- a call of a method that may throw -/
theorem cx_pVX {q0 ci : Nat} {r : vw_C} {fs : List Value} (hnw : nw.all cx_isN = true) (hK : va_K D cl tys s) (hN : cx_N nw s) (hP : va_P D cl ws H) (hD : va_D A ws) (hS : va_S A s.heap H locs) (hA : ∀ q : Nat, s.heap.size ≤ q → A q) (hY : cx_Y A s) (isC : List Nat) (hnC : va_nd isC = true) (hC : isC.map (fun i => ws[i]?) = wc.map some) (hc : cl[ci]? = some r) (he : ws[q0]? = some (b, .inr (ci, fs))) : PreV s H r.1 b (va_Pc (.ref b :: As) (cx_BX D cl tys nw H.size wc)) As :=
  ⟨cx_blindX hnw, va_recv hK hP hc he, fun U hU hW => ⟨rfl, ⟨by rw [hU], by rw [hU]; exact cx_sub hP isC hC, va_K.moved hW.alike hK, (hD.sub isC hnC hC).weaken (fun _ _ _ _ => trivial), cx_N.moved hnw hW hN⟩, cx_Yat hW hU hY hS.2.1 (va_free hD hS hA isC hC)⟩⟩
theorem cx_pSZ {av : List Value} (hnw : nw.all cx_isN = true) (hK : va_K D cl tys s) (hN : cx_N nw s) (hP : va_P D cl ws H) (hD : va_D A ws) (hS : va_S A s.heap H locs) (hA : ∀ q : Nat, s.heap.size ≤ q → A q) (hZ : cx_Z A s) (isC : List Nat) (hnC : va_nd isC = true) (hC : isC.map (fun i => ws[i]?) = wc.map some) : PreS s H (va_Pc av (cx_BZ D cl tys nw H.size wc)) av :=
  ⟨cx_blindZ hnw, fun U hU hW => ⟨rfl, ⟨by rw [hU], by rw [hU]; exact cx_sub hP isC hC, va_K.moved hW.alike hK, (hD.sub isC hnC hC).weaken (fun _ _ _ _ => trivial), cx_N.moved hnw hW hN⟩, cx_Yat hW hU hZ.1 hS.2.1 (va_free hD hS hA isC hC), va_Nc.moved hW.alike hZ.2⟩⟩
theorem cx_rVX {q0 ci : Nat} {r : vw_C} {fs : List Value} (hx : p.tables.exec = Jvm.exec) (hb : c.code = cc) (hml : c.maxLocals = nL) (hown : s.vm.findClass own = some m.cls) (hT : ∀ w ∈ BIG, w.before args s = true) (hK : va_K D vwCl (tyL T) s) (hN : cx_N nwL s) (hP : va_P D vwCl ws H) (hD : va_D A ws) (hS : va_S A s.heap H locs) (hA : ∀ q : Nat, s.heap.size ≤ q → A q) (hY : cx_Y A s)
    (hls : ls.size = nL) (hl : Cond.methodLink own index y ∈ BIG) (k : okV r.1 y bytes maxL ret n) (hM : vx_Met l y (wY y bytes maxL ret) rm (va_Pc (.ref b :: As) (cx_BX D vwCl (tyL T) nwL H.size wc)) Qc XC mc ms free) (hR : rm.frames + 1 ≤ R.frames ∧ 8 + (maxL + 11) + rm.locals ≤ R.locals) (hc : rm.cells = mc ∧ rm.slots = ms)
    (isC : List Nat) (hnC : va_nd isC = true) (hC : isC.map (fun i => ws[i]?) = wc.map some) (hci : vwCl[ci]? = some r) (he : ws[q0]? = some (b, .inr (ci, fs))) (hn : As.length = n) (hst : st0 = As.reverse ++ .ref b :: rest) (hcat : (rest.map fun v => v.category).sum ≤ 8) (hf : cells + mc ≤ R.cells ∧ slots + ms ≤ R.slots) (hdg : decode cc pc = .ok (.invokevirtual index, 3)) :
    vx_Run p l e R s m args below meth c H locs cells slots mc ms (F0 m pc ls st0) rest (Qc (Value.ref b :: As).toArray) XC free :=
  vx_runV ⟨hx, hb, hml, hown, hT⟩ hM (cx_wV hT hl k hR hc) (cx_pVX nwL_ok hK hN hP hD hS hA hY isC hnC hC hci he) rfl hn hls hst (lv_room hcat) hdg hf
theorem cx_cXI {S : Type} {post : Int32 → S → Prop} {wn ws2 : S → va_W} {a : Array Value} (hr : vx_Run p l e R s m args below meth c H locs cells slots mc ms (F0 m pc ls st0) rest (cxI D cl post wn (va_A wc H.size) a) (cxX D cl wc th (va_A wc H.size)) (va_A wc H.size)) (hP : va_P D cl ws H) (hD : va_D A ws) (hS : va_S A H0 H locs) (hA : ∀ q, H0.size ≤ q → A q)
    (isC isR pm : List Nat) (hC : isC.map (fun i => ws[i]?) = wc.map some) (hR : isR.map (fun i => ws[i]?) = wr.map some) (hn : va_nd isR = true) (hdis : ∀ i ∈ isR, i ∉ isC) (hpm : ∀ u, pm.map (fun i => (wr ++ wn u)[i]?) = (ws2 u).map some) (hpw : pm.map (fun i => (wr ++ wc)[i]?) = ws.map some) (hpn : va_nd pm = true)
    (kx : ∀ (E : String) (ce : Cell) (q9 : Addr) (H1 : Heap) (locs1 : List Loc), th E → va_P D cl ws H1 → va_D A ws → va_S A H0 H1 locs1 → H1[q9]? = some ce → ce.vm = .none → s.vm.findClass E = some ce.cls → vx_W p l e R s m args below meth c H1 locs1 (cells + mc) (slots + ms) Q (F0 m pc ls rest) q9)
    (kk : ∀ (r : Int32) (u : S) (H1 : Heap) (locs1 : List Loc), post r u → va_P D cl (ws2 u) H1 → va_D A (ws2 u) → va_S A H0 H1 locs1 → W p l e R s m args below meth c H1 locs1 (cells + mc) (slots + ms) Q (F0 m (pc + 3) ls (.int r :: rest))) : W p l e R s m args below meth c H locs cells slots Q (F0 m pc ls st0) := by
  have hFc := va_free (wc := wc) hD hS hA isC hC
  refine vx_calli hr hS (fun q _ h => hFc q h) hFc (fun q _ h => hFc q h) (fun E ce q9 u t H1 locs1 ht hvm _ hB hz hk hS1 h1 h2 h3 => ?_) (fun r u t H1 locs1 ht hvm hq hB hz hk hS1 => ?_)
  · obtain ⟨hth, hP1, hD1⟩ := hB
    rw [ht] at hP1
    obtain ⟨hP2, hD2⟩ := va_join (wr := wr) (w1 := wc) hP hD isC isR hC hR hn hdis hk hFc hP1 hD1
    exact kx E ce q9 H1 locs1 hth (cx_sub hP2 pm hpw) (hD2.sub pm hpn hpw) hS1 h1 h2 h3
  · obtain ⟨hP1, hD1⟩ := hB
    rw [ht] at hP1
    obtain ⟨hP2, hD2⟩ := va_join (wr := wr) (w1 := wn u) hP hD isC isR hC hR hn hdis hk hFc hP1 hD1
    exact kk r u H1 locs1 hq (cx_sub hP2 pm (hpm u)) (hD2.sub pm hpn (hpm u)) hS1
theorem cx_cXL {S : Type} {post : Int64 → S → Prop} {wn ws2 : S → va_W} {a : Array Value} (hr : vx_Run p l e R s m args below meth c H locs cells slots mc ms (F0 m pc ls st0) rest (cxL D cl post wn (va_A wc H.size) a) (cxX D cl wc th (va_A wc H.size)) (va_A wc H.size)) (hP : va_P D cl ws H) (hD : va_D A ws) (hS : va_S A H0 H locs) (hA : ∀ q, H0.size ≤ q → A q)
    (isC isR pm : List Nat) (hC : isC.map (fun i => ws[i]?) = wc.map some) (hR : isR.map (fun i => ws[i]?) = wr.map some) (hn : va_nd isR = true) (hdis : ∀ i ∈ isR, i ∉ isC) (hpm : ∀ u, pm.map (fun i => (wr ++ wn u)[i]?) = (ws2 u).map some) (hpw : pm.map (fun i => (wr ++ wc)[i]?) = ws.map some) (hpn : va_nd pm = true)
    (kx : ∀ (E : String) (ce : Cell) (q9 : Addr) (H1 : Heap) (locs1 : List Loc), th E → va_P D cl ws H1 → va_D A ws → va_S A H0 H1 locs1 → H1[q9]? = some ce → ce.vm = .none → s.vm.findClass E = some ce.cls → vx_W p l e R s m args below meth c H1 locs1 (cells + mc) (slots + ms) Q (F0 m pc ls rest) q9)
    (kk : ∀ (r : Int64) (u : S) (H1 : Heap) (locs1 : List Loc), post r u → va_P D cl (ws2 u) H1 → va_D A (ws2 u) → va_S A H0 H1 locs1 → W p l e R s m args below meth c H1 locs1 (cells + mc) (slots + ms) Q (F0 m (pc + 3) ls (.long r :: rest))) : W p l e R s m args below meth c H locs cells slots Q (F0 m pc ls st0) := by
  have hFc := va_free (wc := wc) hD hS hA isC hC
  refine vx_calll hr hS (fun q _ h => hFc q h) hFc (fun q _ h => hFc q h) (fun E ce q9 u t H1 locs1 ht hvm _ hB hz hk hS1 h1 h2 h3 => ?_) (fun r u t H1 locs1 ht hvm hq hB hz hk hS1 => ?_)
  · obtain ⟨hth, hP1, hD1⟩ := hB
    rw [ht] at hP1
    obtain ⟨hP2, hD2⟩ := va_join (wr := wr) (w1 := wc) hP hD isC isR hC hR hn hdis hk hFc hP1 hD1
    exact kx E ce q9 H1 locs1 hth (cx_sub hP2 pm hpw) (hD2.sub pm hpn hpw) hS1 h1 h2 h3
  · obtain ⟨hP1, hD1⟩ := hB
    rw [ht] at hP1
    obtain ⟨hP2, hD2⟩ := va_join (wr := wr) (w1 := wn u) hP hD isC isR hC hR hn hdis hk hFc hP1 hD1
    exact kk r u H1 locs1 hq (cx_sub hP2 pm (hpm u)) (hD2.sub pm hpn (hpm u)) hS1
/-- a call of a helper -/
theorem cx_cH {S : Type} {post : Int32 → S → Prop} {wn ws2 : S → va_W} {a : Array Value} (hr : vx_Run p l e R s m args below meth c H locs cells slots mc ms (F0 m pc ls st0) rest (cxI D cl post wn (va_A wc H.size) a) cx_XF (va_A wc H.size)) (hP : va_P D cl ws H) (hD : va_D A ws) (hS : va_S A H0 H locs) (hA : ∀ q, H0.size ≤ q → A q)
    (isC isR pm : List Nat) (hC : isC.map (fun i => ws[i]?) = wc.map some) (hR : isR.map (fun i => ws[i]?) = wr.map some) (hn : va_nd isR = true) (hdis : ∀ i ∈ isR, i ∉ isC) (hpm : ∀ u, pm.map (fun i => (wr ++ wn u)[i]?) = (ws2 u).map some) (hpn : va_nd pm = true)
    (kk : ∀ (r : Int32) (u : S) (H1 : Heap) (locs1 : List Loc), post r u → va_P D cl (ws2 u) H1 → va_D A (ws2 u) → va_S A H0 H1 locs1 → W p l e R s m args below meth c H1 locs1 (cells + mc) (slots + ms) Q (F0 m (pc + 3) ls (.int r :: rest))) : W p l e R s m args below meth c H locs cells slots Q (F0 m pc ls st0) := by
  have hFc := va_free (wc := wc) hD hS hA isC hC
  refine vx_calli hr hS (fun q _ h => hFc q h) hFc (fun q _ h => h.elim) (fun E ce q9 u t H1 locs1 ht hvm hF => hF.elim) (fun r u t H1 locs1 ht hvm hq hB hz hk hS1 => ?_)
  obtain ⟨hP1, hD1⟩ := hB
  rw [ht] at hP1
  obtain ⟨hP2, hD2⟩ := va_join (wr := wr) (w1 := wn u) hP hD isC isR hC hR hn hdis hk hFc hP1 hD1
  exact kk r u H1 locs1 hq (cx_sub hP2 pm (hpm u)) (hD2.sub pm hpn (hpm u)) hS1
def okH (y : MethodName) (b : ByteArray) (k : Nat) (r : Option FieldType) (hh : List (Nat × Nat × Nat × Nat)) (n : Nat) : Prop := Cond.codeWith y b k r hh ∈ BIG ∧ Cond.static y ∈ BIG ∧ Cond.initialized y.cls ∈ BIG ∧ okD y n
theorem cx_rH {hh : List (Nat × Nat × Nat × Nat)} (hx : p.tables.exec = Jvm.exec) (hb : c.code = cc) (hml : c.maxLocals = nL) (hown : s.vm.findClass own = some m.cls) (hT : ∀ w ∈ BIG, w.before args s = true) (hK : va_K D vwCl (tyL T) s) (hN : cx_N nwL s) (hP : va_P D vwCl ws H) (hD : va_D A ws) (hS : va_S A s.heap H locs) (hA : ∀ q : Nat, s.heap.size ≤ q → A q) (hZ : cx_Z A s)
    (hls : ls.size = nL) (hl : Cond.methodLink own index y ∈ BIG) (k : okH y bytes maxL ret hh n) (hM : vx_Met l y (wH y bytes maxL ret hh) rm (va_Pc As (cx_BZ D vwCl (tyL T) nwL H.size wc)) Qc XC mc ms free) (hR : rm.frames + 1 ≤ R.frames ∧ 8 + (maxL + 11) + rm.locals ≤ R.locals) (hc : rm.cells = mc ∧ rm.slots = ms)
    (isC : List Nat) (hnC : va_nd isC = true) (hC : isC.map (fun i => ws[i]?) = wc.map some) (hn : As.length = n) (hst : st0 = As.reverse ++ rest) (hcat : (rest.map fun v => v.category).sum ≤ 8) (hf : cells + mc ≤ R.cells ∧ slots + ms ≤ R.slots) (hdg : decode cc pc = .ok (.invokestatic index, 3)) :
    vx_Run p l e R s m args below meth c H locs cells slots mc ms (F0 m pc ls st0) rest (Qc As.toArray) XC free :=
  vx_runSX ⟨hx, hb, hml, hown, hT⟩ hM (vx_cwSW n hT (fun w hw => by
    have hm : w ∈ BIG := by
      rcases List.mem_append.mp hw with h | h
      · rcases List.mem_cons.mp h with rfl | h
        · exact hl
        rcases List.mem_cons.mp h with rfl | h
        · exact k.2.1
        rcases List.mem_cons.mp h with rfl | h
        · exact k.2.2.1
        · exact absurd h List.not_mem_nil
      · rcases List.mem_cons.mp h with rfl | h
        · exact k.1
        · exact h
    exact ⟨hm, good_of_word (List.mem_filter.mp hm).2⟩) rfl hc.1 hc.2 k.2.2.2 hR) (cx_pSZ nwL_ok hK hN hP hD hS hA hZ isC hnC hC) rfl hn hls hst (lv_room hcat) hdg hf
/-- longs that are equal -/
theorem cx_lcmpE (hx : p.tables.exec = Jvm.exec) (hb : c.code = cc) {x y : Int64} (h2 : x = y) (hdg : decode cc pc = .ok (.lcmp, 1))
    (kk : W p l e R s m args below meth c H locs cells slots Q (F0 m (pc + 1) ls (.int (iI 0) :: rest))) : W p l e R s m args below meth c H locs cells slots Q (F0 m pc ls (.long y :: .long x :: rest)) := by
  intro T hT X
  have h1 : ¬ x > y := by rw [h2]; exact Int64.lt_irrefl
  obtain ⟨t, a, b⟩ := kk T hT X
  refine ⟨t, ?_, b⟩
  jvm_step X.here [X.here.top, hx, hb, hdg]
  simp only [h1, h2]
  simp
  exact a
/-- the one place of the law's array of longs -/
theorem cx_last {a : Nat} (hx : p.tables.exec = Jvm.exec) (hb : c.code = cc) (hK : va_K D vwCl (tyL T) s) (hP : va_P D vwCl ws H) (hD : va_D A ws) (hS : va_S A H0 H locs) (q0 : Nat) {g : Nat → Int64} (ha : ws[q0]? = some (a, .inl (T 3, 1, .inr (.inl g)))) {x : Int64} (hdg : decode cc pc = .ok (.lastore, 1))
    (kk : ∀ (g' : Nat → Int64) (H1 : Heap) (locs1 : List Loc), g' 0 = x → va_P D vwCl (ws.set q0 (a, .inl (T 3, 1, .inr (.inl g')))) H1 → va_D A (ws.set q0 (a, .inl (T 3, 1, .inr (.inl g')))) → va_S A H0 H1 locs1 → W p l e R s m args below meth c H1 locs1 cells slots Q (F0 m (pc + 1) ls rest)) : W p l e R s m args below meth c H locs cells slots Q (F0 m pc ls (.long x :: .int (iI 0) :: .ref a :: rest)) :=
  va_last hx hb hK hP hD hS q0 3 ha rfl (iI_in (by omega) (by omega)) hdg (fun H1 locs1 hP hD hS => kk _ H1 locs1 rfl hP hD hS)
theorem cx_lald {a : Nat} (hx : p.tables.exec = Jvm.exec) (hb : c.code = cc) (hK : va_K D vwCl (tyL T) s) (hP : va_P D vwCl ws H) (q0 : Nat) {g : Nat → Int64} (ha : ws[q0]? = some (a, .inl (T 3, 1, .inr (.inl g)))) (hdg : decode cc pc = .ok (.laload, 1))
    (kk : W p l e R s m args below meth c H locs cells slots Q (F0 m (pc + 1) ls (.long (g 0) :: rest))) : W p l e R s m args below meth c H locs cells slots Q (F0 m pc ls (.int (iI 0) :: .ref a :: rest)) :=
  va_lald hx hb hK hP q0 3 ha rfl (iI_in (by omega) (by omega)) hdg kk
end CXM
