/-! the start of a method that returns or throws -/
def xW (cls : String) (ik ic : Nat) : Prop := Bundle.fit cls = true ∧ (Cond.classLink xC ik cls ∈ BIG ∧ Cond.initialized cls ∈ BIG) ∧ (∀ w ∈ Cond.classLink xC ik cls :: Cond.initialized cls :: vx_at0 xC ic cls xN, vx_ot w = true) ∧ (∀ w ∈ (vx_at0 xC ic cls xN).filter goodWord, w ∈ BIG) ∧ ∀ w ∈ (vx_at0 xC ic cls xN).filter (fun w => !goodWord w), w ∈ xB
theorem xw_IA : xW xIA 61 63 := ⟨by decide, xk_IA, xo_IA, xg_IA, xb_IA⟩
theorem xw_IS : xW xIS 75 77 := ⟨by decide, xk_IS, xo_IS, xg_IS, xb_IS⟩
theorem xw_IO : xW xIO 97 99 := ⟨by decide, xk_IO, xo_IO, xg_IO, xb_IO⟩
theorem xw_UO : xW xUO 133 135 := ⟨by decide, xk_UO, xo_UO, xg_UO, xb_UO⟩
theorem xN_fit : ∀ n ∈ xN, Bundle.fit n = true := by decide
section CX10
variable {p : Program} {l : Launch} {e : Env} {R : Room} {s : State} {m : MethodId} {args : Array Value} {below : List Frame} {meth : Method} {c : Code} {H : Heap} {locs : List Loc}
variable {cc : ByteArray} {pc : Nat} {ls : Array Slot} {D : va_G} {cl : List vw_C} {A : Nat → Prop} {wc : va_W} {Qc : Array Value → State → Outcome → State → Prop} {th : String → Prop}
theorem cx_thr (hx : p.tables.exec = Jvm.exec) (hb : c.code = cc) (hl : l.stackTraces = false) {cls : String} {ik ic : Nat} (hw : xW cls ik ic) (hth : th cls) (hown : s.vm.findClass xC = some m.cls) (hT : ∀ w ∈ BIG, w.before args s = true) (hY : cx_Y A s) (hex : ∀ x ∈ c.exceptionTable.toList, False) (hlocks : meth.locks = false) (hsize : ls.size = c.maxLocals)
    (hR : 6 ≤ R.frames ∧ 81 ≤ R.locals ∧ 1 ≤ R.cells ∧ 6 ≤ R.slots) (d0 : decode cc pc = .ok (.new ik, 3)) (d3 : decode cc (pc + 3) = .ok (.dup, 1)) (d4 : decode cc (pc + 4) = .ok (.invokespecial ic, 3)) (d7 : decode cc (pc + 7) = .ok (.athrow, 1)) (hP : va_P D cl wc H) (hD : va_D A wc) (hS : va_S A s.heap H locs) :
    W p l e R s m args below meth c H locs 0 0 (vx_MQ below Qc (cxX D cl wc th A) args s 1 6 A) (F0 m pc ls []) :=
  vx_throw0 (A := A) (own := xC) (cls := cls) (names := xN) hx hb hl hown hw.1 xN_fit (hT _ hw.2.1.1) (hT _ hw.2.1.2) (xw_all hT hY.2.2 hw.2.2.2.1 hw.2.2.2.2) hw.2.2.1 hY.1 hY.2.1 hS hsize d0 d3 d4 d7 (fun x h => (hex x h).elim)
    (by show 2 + 3 < R.frames; omega) (by show 0 + (13 * (2 + 1) + 42) ≤ R.locals; omega) (by omega) (by omega) hlocks
    (fun t _ h1 h2 => ⟨(), trivial, ⟨hth, va_P.kept hP (fun k q hk => h2 q.1 (vx_lt hP hk)), hD⟩, ⟨Nat.le_trans hS.1 h1, fun q hq hA => (h2 q (Nat.lt_of_lt_of_le hq hS.1)).trans (hS.2.1 q hq hA)⟩⟩)
    hS.2.2 (by omega) (by omega)
end CX10
