/-! CharMachine's static helpers -/
def sgz (k : Int) : Int := if k = 1 then 2 else 3
theorem sgz_in (k : Int) : 0 ≤ sgz k ∧ sgz k < 4 := by unfold sgz; split <;> decide
theorem wrt_in {v : Int} (h : 0 ≤ v ∧ v < 10) : 1 ≤ wrt v ∧ wrt v ≤ 10 := by unfold wrt; split <;> omega
theorem vl_in {c : Int} (h : 0 ≤ c ∧ c < 64) : 0 ≤ vl c ∧ vl c < 10 := by unfold vl; omega
theorem bt_zd {d z : Int} (hd : 0 ≤ d ∧ d < 16) (hz : 0 ≤ z ∧ z < 4) : iI d ||| iI (z * 16) = iI (d + 16 * z) := by
  rw [Int.mul_comm z 16]; exact bt_dz hd hz
section CX5
variable {p : Program} {l : Launch} {e : Env} {R : Room} {s : State} {m : MethodId} {args : Array Value} {below : List Frame} {meth : Method} {c : Code} {H : Heap} {locs : List Loc} {cells slots : Nat} {Q : State → Prop} {cc : ByteArray} {pc : Nat} {ls : Array Slot} {rest : List Value}
theorem cx_min (hx : p.tables.exec = Jvm.exec) (hb : c.code = cc) (hml : c.maxLocals = ls.size) {own : String} {index : Nat} (hown : s.vm.findClass own = some m.cls) (hT : ∀ w ∈ BIG, w.before args s = true) (hl : Cond.methodLink own index Lib.Math.min.name ∈ BIG) (hframes : 1 ≤ R.frames) (hlocals : (rest.map fun v => v.category).sum + 13 ≤ R.locals) (hc : cells ≤ R.cells) (hs : slots ≤ R.slots) {x y : Int} (hx1 : -2147483648 ≤ x ∧ x < 2147483648) (hy1 : -2147483648 ≤ y ∧ y < 2147483648) (hdg : decode cc pc = .ok (.invokestatic index, 3))
    (kk : ∀ t : Int, (t ≤ x ∧ t ≤ y ∧ (t = x ∨ t = y)) → W p l e R s m args below meth c H locs cells slots Q (F0 m (pc + 3) ls (.int (iI t) :: rest))) : W p l e R s m args below meth c H locs cells slots Q (F0 m pc ls (.int (iI y) :: .int (iI x) :: rest)) := by
  refine va_mmin hx hb hml hown (hT _ hl) (hT _ tw_425) (hT _ tw_12) (hT _ tw_426) hframes hlocals hc hs hdg ?_
  by_cases h : y < x
  · rw [if_pos ((iI_lt hy1 hx1).mpr h)]
    exact kk y ⟨by omega, by omega, Or.inr rfl⟩
  · rw [if_neg (fun h9 => h ((iI_lt hy1 hx1).mp h9))]
    exact kk x ⟨by omega, by omega, Or.inl rfl⟩
end CX5
set_option maxHeartbeats 4000000 in
set_option maxRecDepth 100000 in
theorem c_CM_isCharacter (l : Launch) (D : va_G) (T : Nat → ClassId) (sz : Nat) (z : Int) (hz : -2147483648 ≤ z ∧ z < 2147483648) : MI l y_CM_isCharacter (wY y_CM_isCharacter b_CM_isCharacter 1 (some .boolean)) (rmK 0) D vwCl (tyL T) nwL sz [.int (iI (z))] (([] : va_W)) (fun r (_ : Unit) => (r = iI 1 ∧ (0 ≤ z ∧ z < 64)) ∨ (r = iI 0 ∧ (¬ (0 ≤ z ∧ z < 64)))) (fun _ => ([] : va_W)) := by
  refine cx_inZ (by decide) rfl (Nat.le_of_ble_eq_true rfl) ?_
  intro p e s m below meth c ls A Q hx hb hml hT hown hret hP hK hD hN hS hA hl
  have hown : s.vm.findClass R_CM = some m.cls := hown
  have hl : lv_has ls 1 [(0, .int (iI (z)))] := hl
  refine lv_iload_n hx hb d_CM_isCharacter_0 rfl (lv_at hl 0 rfl) ?_
  refine cx_if_lt (tgt := 14) hx hb d_CM_isCharacter_1 rfl (by omega) (fun h1 => ?_) (fun h1 => ?_)
  · refine cx_iconst hx hb d_CM_isCharacter_14 ?_
    exact hret () (Or.inl rfl) (Or.inr ⟨rfl, by omega⟩) hP hD hS d_CM_isCharacter_15
  · refine lv_iload_n hx hb d_CM_isCharacter_4 rfl (lv_at hl 0 rfl) ?_
    refine cx_bipush hx hb d_CM_isCharacter_5 rfl ?_
    refine cx_icmp_ge (tgt := 14) hx hb d_CM_isCharacter_7 rfl (by omega) (by omega) (fun h7 => ?_) (fun h7 => ?_)
    · refine cx_iconst hx hb d_CM_isCharacter_14 ?_
      exact hret () (Or.inl rfl) (Or.inr ⟨rfl, by omega⟩) hP hD hS d_CM_isCharacter_15
    · refine cx_iconst hx hb d_CM_isCharacter_10 ?_
      refine lv_goto (tgt := 15) hx hb d_CM_isCharacter_11 rfl ?_
      exact hret () (Or.inr rfl) (Or.inl ⟨rfl, by omega⟩) hP hD hS d_CM_isCharacter_15

set_option maxHeartbeats 4000000 in
set_option maxRecDepth 100000 in
theorem c_CM_written (l : Launch) (D : va_G) (T : Nat → ClassId) (sz : Nat) (z : Int) (hz : -2147483648 ≤ z ∧ z < 2147483648) : MI l y_CM_written (wY y_CM_written b_CM_written 1 (some .int)) (rmK 0) D vwCl (tyL T) nwL sz [.int (iI (z))] (([] : va_W)) (fun r (_ : Unit) => r = iI (wrt z)) (fun _ => ([] : va_W)) := by
  refine cx_inI (by decide) rfl (Nat.le_of_ble_eq_true rfl) ?_
  intro p e s m below meth c ls A Q hx hb hml hT hown hret hP hK hD hN hS hA hl
  have hown : s.vm.findClass R_CM = some m.cls := hown
  have hl : lv_has ls 1 [(0, .int (iI (z)))] := hl
  refine lv_iload_n hx hb d_CM_written_0 rfl (lv_at hl 0 rfl) ?_
  refine cx_if_ne (tgt := 9) hx hb d_CM_written_1 rfl (by omega) (fun h1 => ?_) (fun h1 => ?_)
  · refine lv_iload_n hx hb d_CM_written_9 rfl (lv_at hl 0 rfl) ?_
    exact hret () (by unfold wrt; rw [if_neg (by omega)]) hP hD hS d_CM_written_10
  · refine cx_bipush hx hb d_CM_written_4 rfl ?_
    refine lv_goto (tgt := 10) hx hb d_CM_written_6 rfl ?_
    exact hret () (by unfold wrt; rw [if_pos (by omega)]) hP hD hS d_CM_written_10

set_option maxHeartbeats 4000000 in
set_option maxRecDepth 100000 in
theorem c_CM_signZone (l : Launch) (D : va_G) (T : Nat → ClassId) (sz : Nat) (k : Int) (hk : k = 0 ∨ k = 1) : MI l y_CM_signZone (wY y_CM_signZone b_CM_signZone 1 (some .int)) (rmK 0) D vwCl (tyL T) nwL sz [.int (iI (k))] (([] : va_W)) (fun r (_ : Unit) => r = iI (16 * sgz k)) (fun _ => ([] : va_W)) := by
  refine cx_inI (by decide) rfl (Nat.le_of_ble_eq_true rfl) ?_
  intro p e s m below meth c ls A Q hx hb hml hT hown hret hP hK hD hN hS hA hl
  have hown : s.vm.findClass R_CM = some m.cls := hown
  have hl : lv_has ls 1 [(0, .int (iI (k)))] := hl
  refine lv_iload_n hx hb d_CM_signZone_0 rfl (lv_at hl 0 rfl) ?_
  refine cx_if_eq (tgt := 9) hx hb d_CM_signZone_1 rfl (by omega) (fun h1 => ?_) (fun h1 => ?_)
  · refine cx_bipush hx hb d_CM_signZone_9 rfl ?_
    exact hret () (by unfold sgz; rw [if_neg (by omega)]; rfl) hP hD hS d_CM_signZone_11
  · refine cx_bipush hx hb d_CM_signZone_4 rfl ?_
    refine lv_goto (tgt := 11) hx hb d_CM_signZone_6 rfl ?_
    exact hret () (by unfold sgz; rw [if_pos (by omega)]; rfl) hP hD hS d_CM_signZone_11
