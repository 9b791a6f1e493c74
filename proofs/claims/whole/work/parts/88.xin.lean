/-! contracts of methods that return, or throw with nothing changed -/
def cx_Y (A : Nat → Prop) (U : State) : Prop := vx_Zq Bundle.tN "UNASSIGNED_STACK" Bundle.steD A U U.heap ∧ vx_Zq Bundle.tN "SUPPRESSED_SENTINEL" Bundle.listD A U U.heap ∧ ∀ w ∈ xB, va_Nw w U
def cx_BX (D : va_G) (cl : List vw_C) (tys : List (ClassId × FieldType)) (nw : List Cond) (sz : Nat) (wc : va_W) (U : State) : Prop := cx_B D cl tys nw sz wc U ∧ cx_Y (va_A wc sz) U
theorem xB_on : ∀ w ∈ xB, w.onTables = true := by decide +kernel
theorem cx_blindX {D : va_G} {cl : List vw_C} {tys : List (ClassId × FieldType)} {nw : List Cond} {sz : Nat} {wc : va_W} {av : List Value} (hnw : nw.all cx_isN = true) : FrameBlind (va_Pc av (cx_BX D cl tys nw sz wc)) := fun a U g mk q => by
  obtain ⟨q0, qB, qU, qN, qW⟩ := q
  have h := cx_blind (D := D) (cl := cl) (tys := tys) (sz := sz) (wc := wc) (av := av) hnw a U g mk ⟨q0, qB⟩
  exact ⟨h.1, h.2, vx_Zq.moved (u := U) (U := U.calling g mk a) (Vm.Alike.refl U.vm) qU, vx_Zq.moved (u := U) (U := U.calling g mk a) (Vm.Alike.refl U.vm) qN, fun w hw => va_Nw.same (xB_on w hw) (u := U) (U := U.calling g mk a) rfl (qW w hw)⟩
abbrev rmX (k : Nat) : Room := { frames := k, cells := 1, slots := 6, locals := 40 * k }
/-- how it throws: which class, the world as it was -/
abbrev cxX (D : va_G) (cl : List vw_C) (wc : va_W) (th : String → Prop) (A : Nat → Prop) : String → State → State → Prop := vx_X (fun _ : Unit => True) (fun E _ t => th E ∧ va_P D cl wc t.heap ∧ va_D A wc) A
theorem xw_all {args : Array Value} {s : State} {L : List Cond} (hT : ∀ w ∈ BIG, w.before args s = true) (hX : ∀ w ∈ xB, va_Nw w s) (hg : ∀ w ∈ L.filter goodWord, w ∈ BIG) (hb : ∀ w ∈ L.filter (fun w => !goodWord w), w ∈ xB) : ∀ w ∈ L, w.before args s = true :=
  vx_hat (B := xB) (fun w h => hT w (hg w h)) hb (fun w h => va_tabs (xB_on w h) rfl (hX w h))
