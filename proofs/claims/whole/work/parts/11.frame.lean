/-! contracts over worlds: one start, one end, one row a call -/
def cx_isN : Cond → Bool
  | .fieldLinkNest .. => true
  | .methodLinkNest .. => true
  | _ => false
def cx_N (nw : List Cond) (U : State) : Prop := ∀ w ∈ nw, va_Nw w U
theorem cx_isN_on {w : Cond} (h : cx_isN w = true) : w.onTables = true := by
  unfold cx_isN at h
  split at h
  · rfl
  · rfl
  · cases h
theorem cx_N_one {w : Cond} (h : cx_isN w = true) {s U : State} (hW : s.WarmedH U.vm) (hZ : va_Nw w s) : va_Nw w U := by
  unfold cx_isN at h
  split at h
  · exact va_Nw.warmF hW hZ
  · exact va_Nw.warmM hW hZ
  · cases h
theorem cx_N.moved {nw : List Cond} (hnw : nw.all cx_isN = true) {s U : State} (hW : s.WarmedH U.vm) (h : cx_N nw s) : cx_N nw U := fun w hw => cx_N_one (List.all_eq_true.mp hnw w hw) hW (h w hw)
def cx_B (D : va_G) (cl : List vw_C) (tys : List (ClassId × FieldType)) (nw : List Cond) (sz : Nat) (wc : va_W) (U : State) : Prop := U.heap.size = sz ∧ va_P D cl wc U.heap ∧ va_K D cl tys U ∧ va_D (fun _ => True) wc ∧ cx_N nw U
theorem cx_blind {D : va_G} {cl : List vw_C} {tys : List (ClassId × FieldType)} {nw : List Cond} {sz : Nat} {wc : va_W} {av : List Value} (hnw : nw.all cx_isN = true) : FrameBlind (va_Pc av (cx_B D cl tys nw sz wc)) := fun a U g mk q => by
  obtain ⟨q0, q1, qP, qK, qD, qN⟩ := q
  exact ⟨q0, q1, qP, va_K.moved (u := U) (U := U.calling g mk a) (Vm.Alike.refl U.vm) qK, qD, fun w hw => va_Nw.same (cx_isN_on (List.all_eq_true.mp hnw w hw)) (u := U) (U := U.calling g mk a) rfl (qN w hw)⟩
theorem cx_sub {D : va_G} {cl : List vw_C} {ws ws' : va_W} {H : Heap} (h : va_P D cl ws H) (is : List Nat) (hs : is.map (fun i => ws[i]?) = ws'.map some) : va_P D cl ws' H := by
  intro k q hk
  have h1 : (is.map (fun i => ws[i]?))[k]? = some (some q) := by rw [hs, List.getElem?_map, hk]; rfl
  rw [List.getElem?_map] at h1
  cases hi : is[k]? with
  | none => rw [hi] at h1; cases h1
  | some i => rw [hi] at h1; exact h i q (Option.some.inj h1)
/-- ends: an int, nothing, a long -/
def cxI {S : Type} (D : va_G) (cl : List vw_C) (post : Int32 → S → Prop) (wn : S → va_W) (A : Nat → Prop) : Array Value → State → Outcome → State → Prop := va_Qi post (fun u t => va_P D cl (wn u) t.heap ∧ va_D A (wn u)) A
def cxV {S : Type} (D : va_G) (cl : List vw_C) (post : S → Prop) (wn : S → va_W) (A : Nat → Prop) : Array Value → State → Outcome → State → Prop := va_Qv post (fun u t => va_P D cl (wn u) t.heap ∧ va_D A (wn u)) A
def cxL {S : Type} (D : va_G) (cl : List vw_C) (post : Int64 → S → Prop) (wn : S → va_W) (A : Nat → Prop) : Array Value → State → Outcome → State → Prop := va_Ql post (fun u t => va_P D cl (wn u) t.heap ∧ va_D A (wn u)) A
/-- a contract's body, from its entry -/
theorem cx_in {l : Launch} {y : MethodName} {ws ws' : List Cond} {rm : Room} {D : va_G} {cl : List vw_C} {tys : List (ClassId × FieldType)} {nw : List Cond} {sz : Nat} {wc : va_W} {av : List Value} {Qf : (Nat → Prop) → Array Value → State → Outcome → State → Prop} {mc ms : Nat} {cc : ByteArray} {maxL : Nat} {ret : Option FieldType}
    (hy : plainName y.cls = true) (hw : ws = Cond.code y cc maxL ret :: ws') (hn : (lg_sl av).length ≤ maxL)
    (body : ∀ (p : Program) (e : Env) (s : State) (m : MethodId) (below : List Frame) (meth : Method) (c : Code) (ls : Array Slot) (A : Nat → Prop), p.tables.exec = Jvm.exec → c.code = cc → meth.sig.returnType = ret → c.maxLocals = maxL → (∀ w ∈ ws', w.before av.toArray s = true) → s.vm.findClass y.cls = some m.cls → meth.locks = false → meth.name = y.name →
      va_P D cl wc s.heap → va_K D cl tys s → va_D A wc → cx_N nw s → va_S A s.heap s.heap [] → (∀ q : Nat, s.heap.size ≤ q → A q) → lv_has ls maxL (lv_args 0 av) → W p l e rm s m av.toArray below meth c s.heap [] 0 0 (MQ below (Qf A) av.toArray s mc ms A) (F0 m 0 ls [])) :
    Met l y ws rm (va_Pc av (cx_B D cl tys nw sz wc)) (Qf (va_A wc sz)) mc ms (va_A wc sz) := by
  refine Met.ofW (cc := cc) (maxL := maxL) (ret := ret) hy hw ?_
  intro p e s m args below meth c s₁ B hml hv
  obtain ⟨rfl, rfl, hP, hK, hD0, hN⟩ := hv
  have hl := lv_entry av (n := maxL) hn
  rw [lg_entry_eq]
  generalize (lg_sl av ++ List.replicate (maxL - (lg_sl av).length) Slot.unset).toArray = ls at hl ⊢
  exact body p e s m below meth c ls (va_A wc s.heap.size) B.exec B.bytes B.returns hml (fun w h => atoms_spec (ws := ws) B.pre w (by rw [hw]; exact List.mem_cons_of_mem _ h)) (findClass_of_methodNamed B.named) B.notSynchronized (name_of_methodNamed B.named B.method).1 hP hK (hD0.self) hN va_S.rf (fun q h => Or.inr h) hl
section CX2
variable {p : Program} {l : Launch} {e : Env} {R : Room} {s : State} {m : MethodId} {args : Array Value} {below : List Frame} {meth : Method} {c : Code} {H : Heap} {locs : List Loc} {cells slots : Nat} {Q : State → Prop}
variable {cc : ByteArray} {pc : Nat} {ls : Array Slot} {rest st0 : List Value} {D : va_G} {cl : List vw_C} {A : Nat → Prop} {tys : List (ClassId × FieldType)} {nw : List Cond} {ws wc wr : va_W} {H0 : Heap}
theorem cx_iret {S : Type} {post : Int32 → S → Prop} {wn : S → va_W} (hx : p.tables.exec = Jvm.exec) (hb : c.code = cc) (hr : meth.sig.returnType = some .int) (hlocks : meth.locks = false) (u : S) {v : Int32} (hq : post v u) (hP : va_P D cl (wn u) H) (hD : va_D A (wn u)) (hS : va_S A s.heap H locs) (hdg : decode cc pc = .ok (.ireturn, 1)) :
    W p l e R s m args below meth c H locs cells slots (MQ below (cxI D cl post wn A) args s cells slots A) (F0 m pc ls [.int v]) :=
  W.iret hx hb hr (fun t ht _ => ⟨⟨v, u, rfl, hq, by rw [ht]; exact hP, hD⟩, hS.F ht⟩) hS.2.2 hdg hlocks
theorem cx_zret {S : Type} {post : Int32 → S → Prop} {wn : S → va_W} (hx : p.tables.exec = Jvm.exec) (hb : c.code = cc) (hr : meth.sig.returnType = some .boolean) (hlocks : meth.locks = false) (u : S) {v : Int32} (hv : v = 0 ∨ v = 1) (hq : post v u) (hP : va_P D cl (wn u) H) (hD : va_D A (wn u)) (hS : va_S A s.heap H locs) (hdg : decode cc pc = .ok (.ireturn, 1)) :
    W p l e R s m args below meth c H locs cells slots (MQ below (cxI D cl post wn A) args s cells slots A) (F0 m pc ls [.int v]) :=
  W.zret hx hb hr (by rcases hv with rfl | rfl <;> rfl) (fun t ht _ => ⟨⟨v, u, rfl, hq, by rw [ht]; exact hP, hD⟩, hS.F ht⟩) hS.2.2 hdg hlocks
theorem cx_vret {S : Type} {post : S → Prop} {wn : S → va_W} (hx : p.tables.exec = Jvm.exec) (hb : c.code = cc) (hr : meth.sig.returnType = none) (hlocks : meth.locks = false) (u : S) (hq : post u) (hP : va_P D cl (wn u) H) (hD : va_D A (wn u)) (hS : va_S A s.heap H locs) (hdg : decode cc pc = .ok (.return_, 1)) :
    W p l e R s m args below meth c H locs cells slots (MQ below (cxV D cl post wn A) args s cells slots A) (F0 m pc ls []) :=
  W.vret hx hb hr (fun t ht _ => ⟨⟨u, rfl, hq, by rw [ht]; exact hP, hD⟩, hS.F ht⟩) hS.2.2 hdg hlocks
theorem cx_lret {S : Type} {post : Int64 → S → Prop} {wn : S → va_W} (hx : p.tables.exec = Jvm.exec) (hb : c.code = cc) (hr : meth.sig.returnType = some .long) (hlocks : meth.locks = false) (u : S) {v : Int64} (hq : post v u) (hP : va_P D cl (wn u) H) (hD : va_D A (wn u)) (hS : va_S A s.heap H locs) (hdg : decode cc pc = .ok (.lreturn, 1)) :
    W p l e R s m args below meth c H locs cells slots (MQ below (cxL D cl post wn A) args s cells slots A) (F0 m pc ls [.long v]) :=
  W.lret hx hb hr (fun t ht _ => ⟨⟨v, u, rfl, hq, by rw [ht]; exact hP, hD⟩, hS.F ht⟩) hS.2.2 hdg hlocks
/-- what a callee finds at its start -/
theorem cx_pS {av : List Value} (hnw : nw.all cx_isN = true) (hK : va_K D cl tys s) (hN : cx_N nw s) (hP : va_P D cl ws H) (hD : va_D A ws) (isC : List Nat) (hnC : va_nd isC = true) (hC : isC.map (fun i => ws[i]?) = wc.map some) : PreS s H (va_Pc av (cx_B D cl tys nw H.size wc)) av :=
  ⟨cx_blind hnw, fun U hU hW => ⟨rfl, by rw [hU], by rw [hU]; exact cx_sub hP isC hC, va_K.moved hW.alike hK, (hD.sub isC hnC hC).weaken (fun _ _ _ _ => trivial), cx_N.moved hnw hW hN⟩⟩
theorem cx_pV {b q0 ci : Nat} {r : vw_C} {fs As : List Value} (hnw : nw.all cx_isN = true) (hK : va_K D cl tys s) (hN : cx_N nw s) (hP : va_P D cl ws H) (hD : va_D A ws) (isC : List Nat) (hnC : va_nd isC = true) (hC : isC.map (fun i => ws[i]?) = wc.map some) (hc : cl[ci]? = some r) (he : ws[q0]? = some (b, .inr (ci, fs))) : PreV s H r.1 b (va_Pc (.ref b :: As) (cx_B D cl tys nw H.size wc)) As :=
  ⟨cx_blind hnw, va_recv hK hP hc he, fun U hU hW => ⟨rfl, by rw [hU], by rw [hU]; exact cx_sub hP isC hC, va_K.moved hW.alike hK, (hD.sub isC hnC hC).weaken (fun _ _ _ _ => trivial), cx_N.moved hnw hW hN⟩⟩
/-- behind a call: the callee's cells as it left them, at their places -/
theorem cx_cI {S : Type} {post : Int32 → S → Prop} {wn ws2 : S → va_W} {a : Array Value} (hr : va_Run p l e R s m args below meth c H locs cells slots 0 0 (F0 m pc ls st0) rest (cxI D cl post wn (va_A wc H.size) a) (va_A wc H.size)) (hP : va_P D cl ws H) (hD : va_D A ws) (hS : va_S A H0 H locs) (hA : ∀ q, H0.size ≤ q → A q)
    (isC isR pm : List Nat) (hC : isC.map (fun i => ws[i]?) = wc.map some) (hR : isR.map (fun i => ws[i]?) = wr.map some) (hn : va_nd isR = true) (hdis : ∀ i ∈ isR, i ∉ isC) (hpm : ∀ u, pm.map (fun i => (wr ++ wn u)[i]?) = (ws2 u).map some) (hpn : va_nd pm = true)
    (kk : ∀ (r : Int32) (u : S) (H1 : Heap) (locs1 : List Loc), post r u → va_P D cl (ws2 u) H1 → va_D A (ws2 u) → va_S A H0 H1 locs1 → W p l e R s m args below meth c H1 locs1 cells slots Q (F0 m (pc + 3) ls (.int r :: rest))) : W p l e R s m args below meth c H locs cells slots Q (F0 m pc ls st0) := by
  have hFc := va_free (wc := wc) hD hS hA isC hC
  refine va_calli hr hS (fun q _ h => hFc q h) hFc (fun r u t H1 locs1 ht hvm hq hB hz hk hS1 => ?_)
  obtain ⟨hP1, hD1⟩ := hB
  rw [ht] at hP1
  obtain ⟨hP2, hD2⟩ := va_join (wr := wr) (w1 := wn u) hP hD isC isR hC hR hn hdis hk hFc hP1 hD1
  exact kk r u H1 locs1 hq (cx_sub hP2 pm (hpm u)) (hD2.sub pm hpn (hpm u)) hS1
theorem cx_cV {S : Type} {post : S → Prop} {wn ws2 : S → va_W} {a : Array Value} (hr : va_Run p l e R s m args below meth c H locs cells slots 0 0 (F0 m pc ls st0) rest (cxV D cl post wn (va_A wc H.size) a) (va_A wc H.size)) (hP : va_P D cl ws H) (hD : va_D A ws) (hS : va_S A H0 H locs) (hA : ∀ q, H0.size ≤ q → A q)
    (isC isR pm : List Nat) (hC : isC.map (fun i => ws[i]?) = wc.map some) (hR : isR.map (fun i => ws[i]?) = wr.map some) (hn : va_nd isR = true) (hdis : ∀ i ∈ isR, i ∉ isC) (hpm : ∀ u, pm.map (fun i => (wr ++ wn u)[i]?) = (ws2 u).map some) (hpn : va_nd pm = true)
    (kk : ∀ (u : S) (H1 : Heap) (locs1 : List Loc), post u → va_P D cl (ws2 u) H1 → va_D A (ws2 u) → va_S A H0 H1 locs1 → W p l e R s m args below meth c H1 locs1 cells slots Q (F0 m (pc + 3) ls rest)) : W p l e R s m args below meth c H locs cells slots Q (F0 m pc ls st0) := by
  have hFc := va_free (wc := wc) hD hS hA isC hC
  refine va_callv hr hS (fun q _ h => hFc q h) hFc (fun u t H1 locs1 ht hvm hq hB hz hk hS1 => ?_)
  obtain ⟨hP1, hD1⟩ := hB
  rw [ht] at hP1
  obtain ⟨hP2, hD2⟩ := va_join (wr := wr) (w1 := wn u) hP hD isC isR hC hR hn hdis hk hFc hP1 hD1
  exact kk u H1 locs1 hq (cx_sub hP2 pm (hpm u)) (hD2.sub pm hpn (hpm u)) hS1
theorem cx_cL {S : Type} {post : Int64 → S → Prop} {wn ws2 : S → va_W} {a : Array Value} (hr : va_Run p l e R s m args below meth c H locs cells slots 0 0 (F0 m pc ls st0) rest (cxL D cl post wn (va_A wc H.size) a) (va_A wc H.size)) (hP : va_P D cl ws H) (hD : va_D A ws) (hS : va_S A H0 H locs) (hA : ∀ q, H0.size ≤ q → A q)
    (isC isR pm : List Nat) (hC : isC.map (fun i => ws[i]?) = wc.map some) (hR : isR.map (fun i => ws[i]?) = wr.map some) (hn : va_nd isR = true) (hdis : ∀ i ∈ isR, i ∉ isC) (hpm : ∀ u, pm.map (fun i => (wr ++ wn u)[i]?) = (ws2 u).map some) (hpn : va_nd pm = true)
    (kk : ∀ (r : Int64) (u : S) (H1 : Heap) (locs1 : List Loc), post r u → va_P D cl (ws2 u) H1 → va_D A (ws2 u) → va_S A H0 H1 locs1 → W p l e R s m args below meth c H1 locs1 cells slots Q (F0 m (pc + 3) ls (.long r :: rest))) : W p l e R s m args below meth c H locs cells slots Q (F0 m pc ls st0) := by
  have hFc := va_free (wc := wc) hD hS hA isC hC
  refine va_calll hr hS (fun q _ h => hFc q h) hFc (fun r u t H1 locs1 ht hvm hq hB hz hk hS1 => ?_)
  obtain ⟨hP1, hD1⟩ := hB
  rw [ht] at hP1
  obtain ⟨hP2, hD2⟩ := va_join (wr := wr) (w1 := wn u) hP hD isC isR hC hR hn hdis hk hFc hP1 hD1
  exact kk r u H1 locs1 hq (cx_sub hP2 pm (hpm u)) (hD2.sub pm hpn (hpm u)) hS1
/-- an int array, read and written -/
theorem cx_iald {a : Nat} (hx : p.tables.exec = Jvm.exec) (hb : c.code = cc) (hK : va_K D cl tys s) (hP : va_P D cl ws H) (q0 t0 : Nat) {cA : ClassId} {n : Nat} {g : Int → Int32} (ha : ws[q0]? = some (a, .inl (cA, n, .inl (fun j : Nat => g (j : Int))))) (ht : tys[t0]? = some (cA, .int)) {z : Int} (hz : 0 ≤ z ∧ z < n) (hn : n < 2147483648) (hdg : decode cc pc = .ok (.iaload, 1))
    (kk : W p l e R s m args below meth c H locs cells slots Q (F0 m (pc + 1) ls (.int (g z) :: rest))) : W p l e R s m args below meth c H locs cells slots Q (F0 m pc ls (.int (iI z) :: .ref a :: rest)) := by
  refine va_iald hx hb hK hP q0 t0 ha ht (iI_in hz hn) hdg ?_
  rw [iI_clamp (by omega)]
  show W p l e R s m args below meth c H locs cells slots Q (F0 m (pc + 1) ls (.int (g (z.toNat : Int)) :: rest))
  rw [Int.toNat_of_nonneg hz.1]
  exact kk
theorem cx_bald {a : Nat} (hx : p.tables.exec = Jvm.exec) (hb : c.code = cc) (hK : va_K D cl tys s) (hP : va_P D cl ws H) (q0 t0 : Nat) {cA : ClassId} {n : Nat} {g : Int → Int32} (ha : ws[q0]? = some (a, .inl (cA, n, .inl (fun j : Nat => g (j : Int))))) (ht : tys[t0]? = some (cA, .byte)) {z : Int} (hz : 0 ≤ z ∧ z < n) (hn : n < 2147483648) (hdg : decode cc pc = .ok (.baload, 1))
    (kk : W p l e R s m args below meth c H locs cells slots Q (F0 m (pc + 1) ls (.int (g z) :: rest))) : W p l e R s m args below meth c H locs cells slots Q (F0 m pc ls (.int (iI z) :: .ref a :: rest)) := by
  refine va_bald hx hb hK hP q0 t0 ha ht (iI_in hz hn) hdg ?_
  rw [iI_clamp (by omega)]
  show W p l e R s m args below meth c H locs cells slots Q (F0 m (pc + 1) ls (.int (g (z.toNat : Int)) :: rest))
  rw [Int.toNat_of_nonneg hz.1]
  exact kk
theorem cx_zald {a : Nat} (hx : p.tables.exec = Jvm.exec) (hb : c.code = cc) (hK : va_K D cl tys s) (hP : va_P D cl ws H) (q0 t0 : Nat) {cA : ClassId} {n : Nat} {g : Int → Int32} (ha : ws[q0]? = some (a, .inl (cA, n, .inl (fun j : Nat => g (j : Int))))) (ht : tys[t0]? = some (cA, .boolean)) {z : Int} (hz : 0 ≤ z ∧ z < n) (hn : n < 2147483648) (hdg : decode cc pc = .ok (.baload, 1))
    (kk : W p l e R s m args below meth c H locs cells slots Q (F0 m (pc + 1) ls (.int (g z) :: rest))) : W p l e R s m args below meth c H locs cells slots Q (F0 m pc ls (.int (iI z) :: .ref a :: rest)) := by
  refine va_zald hx hb hK hP q0 t0 ha ht (iI_in hz hn) hdg ?_
  rw [iI_clamp (by omega)]
  show W p l e R s m args below meth c H locs cells slots Q (F0 m (pc + 1) ls (.int (g (z.toNat : Int)) :: rest))
  rw [Int.toNat_of_nonneg hz.1]
  exact kk
theorem cx_iast {a : Nat} (hx : p.tables.exec = Jvm.exec) (hb : c.code = cc) (hK : va_K D cl tys s) (hP : va_P D cl ws H) (hD : va_D A ws) (hS : va_S A H0 H locs) (q0 t0 : Nat) {cA : ClassId} {n : Nat} {g g' : Int → Int32} (ha : ws[q0]? = some (a, .inl (cA, n, .inl (fun j : Nat => g (j : Int))))) (ht : tys[t0]? = some (cA, .int)) {z : Int} {x : Int32} (hz : 0 ≤ z ∧ z < n) (hn : n < 2147483648) (hg : ∀ j : Int, fu g z x j = g' j) (hdg : decode cc pc = .ok (.iastore, 1))
    (kk : ∀ (H1 : Heap) (locs1 : List Loc), va_P D cl (ws.set q0 (a, .inl (cA, n, .inl (fun j : Nat => g' (j : Int))))) H1 → va_D A (ws.set q0 (a, .inl (cA, n, .inl (fun j : Nat => g' (j : Int))))) → va_S A H0 H1 locs1 → W p l e R s m args below meth c H1 locs1 cells slots Q (F0 m (pc + 1) ls rest)) : W p l e R s m args below meth c H locs cells slots Q (F0 m pc ls (.int x :: .int (iI z) :: .ref a :: rest)) := by
  refine va_iast hx hb hK hP hD hS q0 t0 ha ht (iI_in hz hn) hdg (fun H1 locs1 => ?_)
  rw [iI_clamp (by omega), fu_upd hz.1, show (fun j : Nat => fu g z x (j : Int)) = fun j : Nat => g' (j : Int) from funext fun j => hg j]
  exact kk H1 locs1
end CX2
section CX3
variable {l : Launch} {y : MethodName} {ws ws' : List Cond} {rm : Room} {D : va_G} {cl : List vw_C} {tys : List (ClassId × FieldType)} {nw : List Cond} {sz : Nat} {wc : va_W} {av : List Value} {cc : ByteArray} {maxL : Nat}
/-- contracts of methods that make nothing; their answer an int, a boolean, nothing, a long -/
abbrev MI (l : Launch) (y : MethodName) (ws : List Cond) (rm : Room) (D : va_G) (cl : List vw_C) (tys : List (ClassId × FieldType)) (nw : List Cond) (sz : Nat) (av : List Value) (wc : va_W) {S : Type} (post : Int32 → S → Prop) (wn : S → va_W) : Prop := Met l y ws rm (va_Pc av (cx_B D cl tys nw sz wc)) (cxI D cl post wn (va_A wc sz)) 0 0 (va_A wc sz)
abbrev MV (l : Launch) (y : MethodName) (ws : List Cond) (rm : Room) (D : va_G) (cl : List vw_C) (tys : List (ClassId × FieldType)) (nw : List Cond) (sz : Nat) (av : List Value) (wc : va_W) {S : Type} (post : S → Prop) (wn : S → va_W) : Prop := Met l y ws rm (va_Pc av (cx_B D cl tys nw sz wc)) (cxV D cl post wn (va_A wc sz)) 0 0 (va_A wc sz)
abbrev ML (l : Launch) (y : MethodName) (ws : List Cond) (rm : Room) (D : va_G) (cl : List vw_C) (tys : List (ClassId × FieldType)) (nw : List Cond) (sz : Nat) (av : List Value) (wc : va_W) {S : Type} (post : Int64 → S → Prop) (wn : S → va_W) : Prop := Met l y ws rm (va_Pc av (cx_B D cl tys nw sz wc)) (cxL D cl post wn (va_A wc sz)) 0 0 (va_A wc sz)
theorem cx_inI {S : Type} {post : Int32 → S → Prop} {wn : S → va_W} (hy : plainName y.cls = true) (hw : ws = Cond.code y cc maxL (some .int) :: ws') (hn : (lg_sl av).length ≤ maxL)
    (body : ∀ (p : Program) (e : Env) (s : State) (m : MethodId) (below : List Frame) (meth : Method) (c : Code) (ls : Array Slot) (A : Nat → Prop) (Q : State → Prop), p.tables.exec = Jvm.exec → c.code = cc → c.maxLocals = maxL → (∀ w ∈ ws', w.before av.toArray s = true) → s.vm.findClass y.cls = some m.cls →
      (∀ {H : Heap} {locs : List Loc} {ls : Array Slot} {pc : Nat} {v : Int32} (u : S), post v u → va_P D cl (wn u) H → va_D A (wn u) → va_S A s.heap H locs → decode cc pc = .ok (.ireturn, 1) → W p l e rm s m av.toArray below meth c H locs 0 0 Q (F0 m pc ls [.int v])) →
      va_P D cl wc s.heap → va_K D cl tys s → va_D A wc → cx_N nw s → va_S A s.heap s.heap [] → (∀ q : Nat, s.heap.size ≤ q → A q) → lv_has ls maxL (lv_args 0 av) → W p l e rm s m av.toArray below meth c s.heap [] 0 0 Q (F0 m 0 ls [])) :
    MI l y ws rm D cl tys nw sz av wc post wn :=
  cx_in (Qf := fun A => cxI D cl post wn A) hy hw hn (fun p e s m below meth c ls A hx hb hr hml hts hown hlocks _ hP hK hD hN hS hA hl => body p e s m below meth c ls A _ hx hb hml hts hown (fun u hq hP hD hS hdg => cx_iret hx hb hr hlocks u hq hP hD hS hdg) hP hK hD hN hS hA hl)
theorem cx_inZ {S : Type} {post : Int32 → S → Prop} {wn : S → va_W} (hy : plainName y.cls = true) (hw : ws = Cond.code y cc maxL (some .boolean) :: ws') (hn : (lg_sl av).length ≤ maxL)
    (body : ∀ (p : Program) (e : Env) (s : State) (m : MethodId) (below : List Frame) (meth : Method) (c : Code) (ls : Array Slot) (A : Nat → Prop) (Q : State → Prop), p.tables.exec = Jvm.exec → c.code = cc → c.maxLocals = maxL → (∀ w ∈ ws', w.before av.toArray s = true) → s.vm.findClass y.cls = some m.cls →
      (∀ {H : Heap} {locs : List Loc} {ls : Array Slot} {pc : Nat} {v : Int32} (u : S), (v = iI 0 ∨ v = iI 1) → post v u → va_P D cl (wn u) H → va_D A (wn u) → va_S A s.heap H locs → decode cc pc = .ok (.ireturn, 1) → W p l e rm s m av.toArray below meth c H locs 0 0 Q (F0 m pc ls [.int v])) →
      va_P D cl wc s.heap → va_K D cl tys s → va_D A wc → cx_N nw s → va_S A s.heap s.heap [] → (∀ q : Nat, s.heap.size ≤ q → A q) → lv_has ls maxL (lv_args 0 av) → W p l e rm s m av.toArray below meth c s.heap [] 0 0 Q (F0 m 0 ls [])) :
    MI l y ws rm D cl tys nw sz av wc post wn :=
  cx_in (Qf := fun A => cxI D cl post wn A) hy hw hn (fun p e s m below meth c ls A hx hb hr hml hts hown hlocks _ hP hK hD hN hS hA hl => body p e s m below meth c ls A _ hx hb hml hts hown (fun u hv hq hP hD hS hdg => cx_zret hx hb hr hlocks u hv hq hP hD hS hdg) hP hK hD hN hS hA hl)
theorem cx_inV {S : Type} {post : S → Prop} {wn : S → va_W} (hy : plainName y.cls = true) (hw : ws = Cond.code y cc maxL none :: ws') (hn : (lg_sl av).length ≤ maxL)
    (body : ∀ (p : Program) (e : Env) (s : State) (m : MethodId) (below : List Frame) (meth : Method) (c : Code) (ls : Array Slot) (A : Nat → Prop) (Q : State → Prop), p.tables.exec = Jvm.exec → c.code = cc → c.maxLocals = maxL → (∀ w ∈ ws', w.before av.toArray s = true) → s.vm.findClass y.cls = some m.cls →
      (∀ {H : Heap} {locs : List Loc} {ls : Array Slot} {pc : Nat} (u : S), post u → va_P D cl (wn u) H → va_D A (wn u) → va_S A s.heap H locs → decode cc pc = .ok (.return_, 1) → W p l e rm s m av.toArray below meth c H locs 0 0 Q (F0 m pc ls [])) →
      va_P D cl wc s.heap → va_K D cl tys s → va_D A wc → cx_N nw s → va_S A s.heap s.heap [] → (∀ q : Nat, s.heap.size ≤ q → A q) → lv_has ls maxL (lv_args 0 av) → W p l e rm s m av.toArray below meth c s.heap [] 0 0 Q (F0 m 0 ls [])) :
    MV l y ws rm D cl tys nw sz av wc post wn :=
  cx_in (Qf := fun A => cxV D cl post wn A) hy hw hn (fun p e s m below meth c ls A hx hb hr hml hts hown hlocks _ hP hK hD hN hS hA hl => body p e s m below meth c ls A _ hx hb hml hts hown (fun u hq hP hD hS hdg => cx_vret hx hb hr hlocks u hq hP hD hS hdg) hP hK hD hN hS hA hl)
theorem cx_inL {S : Type} {post : Int64 → S → Prop} {wn : S → va_W} (hy : plainName y.cls = true) (hw : ws = Cond.code y cc maxL (some .long) :: ws') (hn : (lg_sl av).length ≤ maxL)
    (body : ∀ (p : Program) (e : Env) (s : State) (m : MethodId) (below : List Frame) (meth : Method) (c : Code) (ls : Array Slot) (A : Nat → Prop) (Q : State → Prop), p.tables.exec = Jvm.exec → c.code = cc → c.maxLocals = maxL → (∀ w ∈ ws', w.before av.toArray s = true) → s.vm.findClass y.cls = some m.cls →
      (∀ {H : Heap} {locs : List Loc} {ls : Array Slot} {pc : Nat} {v : Int64} (u : S), post v u → va_P D cl (wn u) H → va_D A (wn u) → va_S A s.heap H locs → decode cc pc = .ok (.lreturn, 1) → W p l e rm s m av.toArray below meth c H locs 0 0 Q (F0 m pc ls [.long v])) →
      va_P D cl wc s.heap → va_K D cl tys s → va_D A wc → cx_N nw s → va_S A s.heap s.heap [] → (∀ q : Nat, s.heap.size ≤ q → A q) → lv_has ls maxL (lv_args 0 av) → W p l e rm s m av.toArray below meth c s.heap [] 0 0 Q (F0 m 0 ls [])) :
    ML l y ws rm D cl tys nw sz av wc post wn :=
  cx_in (Qf := fun A => cxL D cl post wn A) hy hw hn (fun p e s m below meth c ls A hx hb hr hml hts hown hlocks _ hP hK hD hN hS hA hl => body p e s m below meth c ls A _ hx hb hml hts hown (fun u hq hP hD hS hdg => cx_lret hx hb hr hlocks u hq hP hD hS hdg) hP hK hD hN hS hA hl)
end CX3
