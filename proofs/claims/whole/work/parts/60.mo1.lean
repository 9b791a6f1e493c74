/-! the reference: its cells. x: the machine's state; y: its own notes: 31 thrown, 32 op, 33 length, 34 from, 35 hadA, 36 hadB, 37 one, 38 two, 39 copy -/
def mkF (cf : Int → Int) (cfil : Int) : Int → Int := fun z => if 0 ≤ z then cf (80 * cfil + z) else 0
def cdF (cf : Int → Int) (cfil : Int) : Int → Int := fun z => if z < 80 * cfil then cf z else 0
abbrev moW (T : Nat → ClassId) (q : Nat → Nat) (n : Nat) (ch mk mkg cdg lf pf : Int → Int) (i a b cmp ov last rd cfil lfil pfil steps ans thr op len frm hA hB : Int) (one two cpb : Int → Int) : va_W := [(q 20, .inr (5, [.int (iI thr), .int (iI (n : Int)), .ref (q 21), .ref (q 22), .int (iI i), .int (iI a), .int (iI b), .int (iI cmp), .int (iI ov), .int (iI last), .int (iI steps), .int (iI ans), .int (iI op), .int (iI len), .int (iI frm), .int (iI hA), .int (iI hB), .ref (q 23), .int (iI cfil), .int (iI rd), .ref (q 24), .int (iI lfil), .ref (q 25), .int (iI pfil), .ref (q 26), .ref (q 27), .ref (q 28), .ref (q 29)])),
  (q 21, .inl (T 1, 2000, .inl (fun j : Nat => iF ch (j : Int)))), (q 22, .inl (T 2, 2000, .inl (fun j : Nat => iF mk (j : Int)))), (q 23, .inl (T 1, 80, .inl (fun j : Nat => iF mkg (j : Int)))), (q 24, .inl (T 1, 1600, .inl (fun j : Nat => iF cdg (j : Int)))), (q 25, .inl (T 1, 5280, .inl (fun j : Nat => iF lf (j : Int)))), (q 26, .inl (T 1, 1600, .inl (fun j : Nat => iF pf (j : Int)))), (q 27, .inl (T 0, 2000, .inl (fun j : Nat => iF one (j : Int)))), (q 28, .inl (T 0, 2000, .inl (fun j : Nat => iF two (j : Int)))), (q 29, .inl (T 1, 2000, .inl (fun j : Nat => iF cpb (j : Int))))]
abbrev moX (T : Nat → ClassId) (q : Nat → Nat) (n : Nat) (x y : SX) : va_W := moW T q n (x 0) (x 1) (mkF (x 2) (x 18 0)) (cdF (x 2) (x 18 0)) (x 3) (x 4) (x 11 0) (x 12 0) (x 13 0) (x 14 0) (x 15 0) (x 16 0) (x 17 0) (x 18 0) (x 19 0) (x 20 0) (x 21 0) (x 22 0) (y 31 0) (y 32 0) (y 33 0) (y 34 0) (y 35 0) (y 36 0) (y 37) (y 38) (y 39)
theorem i2b_A : ∀ k : Fin 128, (iI (k.val : Int)).toInt8.toInt32 = iI (k.val : Int) := by decide +kernel
theorem i2b_ok {v : Int} (h : 0 ≤ v ∧ v < 128) : (iI v).toInt8.toInt32 = iI v := by
  have h1 := i2b_A ⟨v.toNat, by omega⟩
  simp only [Int.toNat_of_nonneg h.1] at h1
  exact h1
section CX8
variable {p : Program} {l : Launch} {e : Env} {R : Room} {s : State} {m : MethodId} {args : Array Value} {below : List Frame} {meth : Method} {c : Code} {H : Heap} {locs : List Loc} {cells slots : Nat} {Q : State → Prop}
variable {cc : ByteArray} {pc : Nat} {ls : Array Slot} {rest : List Value} {D : va_G} {cl : List vw_C} {A : Nat → Prop} {tys : List (ClassId × FieldType)} {ws : va_W} {H0 : Heap}
theorem cx_bast {a : Nat} (hx : p.tables.exec = Jvm.exec) (hb : c.code = cc) (hK : va_K D cl tys s) (hP : va_P D cl ws H) (hD : va_D A ws) (hS : va_S A H0 H locs) (q0 t0 : Nat) {cA : ClassId} {n : Nat} {g g' : Int → Int32} (ha : ws[q0]? = some (a, .inl (cA, n, .inl (fun j : Nat => g (j : Int))))) (ht : tys[t0]? = some (cA, .byte)) {z v : Int} (hz : 0 ≤ z ∧ z < n) (hn : n < 2147483648) (hv : 0 ≤ v ∧ v < 128) (hg : ∀ j : Int, fu g z (iI v) j = g' j) (hdg : decode cc pc = .ok (.bastore, 1))
    (kk : ∀ (H1 : Heap) (locs1 : List Loc), va_P D cl (ws.set q0 (a, .inl (cA, n, .inl (fun j : Nat => g' (j : Int))))) H1 → va_D A (ws.set q0 (a, .inl (cA, n, .inl (fun j : Nat => g' (j : Int))))) → va_S A H0 H1 locs1 → W p l e R s m args below meth c H1 locs1 cells slots Q (F0 m (pc + 1) ls rest)) : W p l e R s m args below meth c H locs cells slots Q (F0 m pc ls (.int (iI v) :: .int (iI z) :: .ref a :: rest)) := by
  refine va_bast hx hb hK hP hD hS q0 t0 ha ht (iI_in hz hn) hdg (fun H1 locs1 => ?_)
  rw [vp_nar_byte, i2b_ok hv, iI_clamp (by omega), fu_upd hz.1, show (fun j : Nat => fu g z (iI v) (j : Int)) = fun j : Nat => g' (j : Int) from funext fun j => hg j]
  exact kk H1 locs1
theorem cx_zast {a : Nat} (hx : p.tables.exec = Jvm.exec) (hb : c.code = cc) (hK : va_K D cl tys s) (hP : va_P D cl ws H) (hD : va_D A ws) (hS : va_S A H0 H locs) (q0 t0 : Nat) {cA : ClassId} {n : Nat} {g g' : Int → Int32} (ha : ws[q0]? = some (a, .inl (cA, n, .inl (fun j : Nat => g (j : Int))))) (ht : tys[t0]? = some (cA, .boolean)) {z v : Int} (hz : 0 ≤ z ∧ z < n) (hn : n < 2147483648) (hv : v = 0 ∨ v = 1) (hg : ∀ j : Int, fu g z (iI v) j = g' j) (hdg : decode cc pc = .ok (.bastore, 1))
    (kk : ∀ (H1 : Heap) (locs1 : List Loc), va_P D cl (ws.set q0 (a, .inl (cA, n, .inl (fun j : Nat => g' (j : Int))))) H1 → va_D A (ws.set q0 (a, .inl (cA, n, .inl (fun j : Nat => g' (j : Int))))) → va_S A H0 H1 locs1 → W p l e R s m args below meth c H1 locs1 cells slots Q (F0 m (pc + 1) ls rest)) : W p l e R s m args below meth c H locs cells slots Q (F0 m pc ls (.int (iI v) :: .int (iI z) :: .ref a :: rest)) := by
  refine va_zast hx hb hK hP hD hS q0 t0 ha ht (iI_in hz hn) hdg (fun H1 locs1 => ?_)
  rw [show vp_nar .boolean (iI v) = iI v by rcases hv with rfl | rfl <;> rfl, iI_clamp (by omega), fu_upd hz.1, show (fun j : Nat => fu g z (iI v) (j : Int)) = fun j : Nat => g' (j : Int) from funext fun j => hg j]
  exact kk H1 locs1
end CX8
theorem fldM {n : Int} {mk : Int → Int} {u most : Int} {k : Nat} {j : Int} : fld n mk u most (k + 1) (j + 1) = if 0 ≤ u - j ∧ u - j < n then (if j + 1 = most ∨ mk (u - j) = 1 then j + 1 else fld n mk u most k (j + 1 + 1)) else 0 := by
  rw [fld, show u - (j + 1) + 1 = u - j by omega]
theorem cmnM {n : Int} {mk : Int → Int} {a b : Int} {k : Nat} {j : Int} : cmn n mk a b (k + 1) (j + 1) = if (0 ≤ a - j ∧ a - j < n) ∧ (0 ≤ b - j ∧ b - j < n) then (if mk (a - j) = 1 ∨ mk (b - j) = 1 then j + 1 else cmn n mk a b k (j + 1 + 1)) else 0 := by
  rw [cmn, show a - (j + 1) + 1 = a - j by omega, show b - (j + 1) + 1 = b - j by omega]
theorem sh4A : ∀ k : Fin 64, iI (k.val : Int) >>> (iI 4 &&& 31) = iI ((k.val : Int) / 16) := by decide +kernel
theorem sh4 {c : Int} (h : 0 ≤ c ∧ c < 64) : iI c >>> (iI 4 &&& 31) = iI (c / 16) := by
  obtain ⟨k, rfl⟩ := fin64 h; exact sh4A k
theorem mkF_fu {cf : Int → Int} {cfil k v : Int} (hk : 1 ≤ k) : mkF (fu cf (cfil * 80 + k - 1) v) cfil = fu (mkF cf cfil) (k - 1) v := by
  funext j
  unfold mkF fu
  by_cases h : j = k - 1
  · rw [if_pos (by omega), if_pos (by omega), if_pos h]
  · rw [if_neg h]
    dsimp only
    by_cases h2 : 0 ≤ j
    · rw [if_pos h2, if_pos h2, if_neg (by omega)]
    · rw [if_neg h2, if_neg h2]
theorem cdF_fu {cf : Int → Int} {cfil z v : Int} (h : 80 * cfil ≤ z) : cdF (fu cf z v) cfil = cdF cf cfil := by
  funext j
  unfold cdF fu
  split
  · rw [if_neg (by omega)]
  · rfl

set_option maxHeartbeats 4000000 in
set_option maxRecDepth 100000 in
theorem c_MO_thrown (l : Launch) (D : va_G) (T : Nat → ClassId) (sz : Nat) (q : Nat → Nat) (n : Nat) (hn : 400 ≤ n ∧ n ≤ 2000) (x y : SX) (hX : okX x) : MI l y_MO_thrown (wY y_MO_thrown b_MO_thrown 1 (some .int)) (rmK 0) D vwCl (tyL T) nwL sz [.ref (q 20)] (moW T q n (x 0) (x 1) (mkF (x 2) (x 18 0)) (cdF (x 2) (x 18 0)) (x 3) (x 4) (x 11 0) (x 12 0) (x 13 0) (x 14 0) (x 15 0) (x 16 0) (x 17 0) (x 18 0) (x 19 0) (x 20 0) (x 21 0) (x 22 0) (y 31 0) (y 32 0) (y 33 0) (y 34 0) (y 35 0) (y 36 0) (y 37) (y 38) (y 39)) (fun r (_ : Unit) => r = iI (y 31 0)) (fun _ => moX T q n x y) := by
  refine cx_inI (by decide) rfl (Nat.le_of_ble_eq_true rfl) ?_
  intro p e s m below meth cd ls A Q hx hb hml hT hown hret hP hK hD hN hS hA hl
  have hown : s.vm.findClass R_MO = some m.cls := hown
  have hl : lv_has ls 1 [(0, .ref (q 20))] := hl
  have hC := hX.1
  have hR0 := hX.2.1
  have hF := hX.2.2
  unfold okR at hR0
  refine lv_aload_n hx hb d_MO_thrown_0 rfl (lv_at hl 0 rfl) ?_
  refine va_get (D := D) (ci := 5) (v := .int (iI (y 31 0))) (C := R_MO) (T := T_MO) (N := 28) hx hb hT lays_MO hown hK hP 0 rfl rfl 0 (by decide) (hT _ tw_636) (fun _ h9 => h9) rfl d_MO_thrown_1 ?_
  exact hret () rfl hP hD hS d_MO_thrown_4

set_option maxHeartbeats 4000000 in
set_option maxRecDepth 100000 in
theorem c_MO_is (l : Launch) (D : va_G) (T : Nat → ClassId) (sz : Nat) (q : Nat → Nat) (n : Nat) (hn : 400 ≤ n ∧ n ≤ 2000) (x y : SX) (hX : okX x) (z : Int) (hz : -2147483648 ≤ z ∧ z < 2147483648) : MI l y_MO_is (wY y_MO_is b_MO_is 2 (some .boolean)) (rmK 0) D vwCl (tyL T) nwL sz [.ref (q 20), .int (iI (z))] (moW T q n (x 0) (x 1) (mkF (x 2) (x 18 0)) (cdF (x 2) (x 18 0)) (x 3) (x 4) (x 11 0) (x 12 0) (x 13 0) (x 14 0) (x 15 0) (x 16 0) (x 17 0) (x 18 0) (x 19 0) (x 20 0) (x 21 0) (x 22 0) (y 31 0) (y 32 0) (y 33 0) (y 34 0) (y 35 0) (y 36 0) (y 37) (y 38) (y 39)) (fun r (_ : Unit) => (r = iI 1 ∧ (0 ≤ z ∧ z < n)) ∨ (r = iI 0 ∧ (¬ (0 ≤ z ∧ z < n)))) (fun _ => moX T q n x y) := by
  refine cx_inZ (by decide) rfl (Nat.le_of_ble_eq_true rfl) ?_
  intro p e s m below meth cd ls A Q hx hb hml hT hown hret hP hK hD hN hS hA hl
  have hown : s.vm.findClass R_MO = some m.cls := hown
  have hl : lv_has ls 2 [(0, .ref (q 20)), (1, .int (iI (z)))] := hl
  have hC := hX.1
  have hR0 := hX.2.1
  have hF := hX.2.2
  unfold okR at hR0
  refine lv_iload_n hx hb d_MO_is_0 rfl (lv_at hl 1 rfl) ?_
  refine cx_if_lt (tgt := 16) hx hb d_MO_is_1 rfl (by omega) (fun h1 => ?_) (fun h1 => ?_)
  · refine cx_iconst hx hb d_MO_is_16 ?_
    exact hret () (Or.inl rfl) (Or.inr ⟨rfl, by omega⟩) hP hD hS d_MO_is_17
  · refine lv_iload_n hx hb d_MO_is_4 rfl (lv_at hl 1 rfl) ?_
    refine lv_aload_n hx hb d_MO_is_5 rfl (lv_at hl 0 rfl) ?_
    refine va_get (D := D) (ci := 5) (v := .int (iI ((n : Int)))) (C := R_MO) (T := T_MO) (N := 28) hx hb hT lays_MO hown hK hP 0 rfl rfl 1 (by decide) (hT _ tw_637) (fun _ h9 => h9) rfl d_MO_is_6 ?_
    refine cx_icmp_ge (tgt := 16) hx hb d_MO_is_9 rfl (by omega) (by omega) (fun h9 => ?_) (fun h9 => ?_)
    · refine cx_iconst hx hb d_MO_is_16 ?_
      exact hret () (Or.inl rfl) (Or.inr ⟨rfl, by omega⟩) hP hD hS d_MO_is_17
    · refine cx_iconst hx hb d_MO_is_12 ?_
      refine lv_goto (tgt := 17) hx hb d_MO_is_13 rfl ?_
      exact hret () (Or.inr rfl) (Or.inl ⟨rfl, by omega⟩) hP hD hS d_MO_is_17

set_option maxHeartbeats 4000000 in
set_option maxRecDepth 100000 in
theorem c_MO_isCharacter (l : Launch) (D : va_G) (T : Nat → ClassId) (sz : Nat) (z : Int) (hz : -2147483648 ≤ z ∧ z < 2147483648) : MI l y_MO_isCharacter (wY y_MO_isCharacter b_MO_isCharacter 1 (some .boolean)) (rmK 0) D vwCl (tyL T) nwL sz [.int (iI (z))] (([] : va_W)) (fun r (_ : Unit) => (r = iI 1 ∧ (0 ≤ z ∧ z < 64)) ∨ (r = iI 0 ∧ (¬ (0 ≤ z ∧ z < 64)))) (fun _ => ([] : va_W)) := by
  refine cx_inZ (by decide) rfl (Nat.le_of_ble_eq_true rfl) ?_
  intro p e s m below meth cd ls A Q hx hb hml hT hown hret hP hK hD hN hS hA hl
  have hown : s.vm.findClass R_MO = some m.cls := hown
  have hl : lv_has ls 1 [(0, .int (iI (z)))] := hl
  refine lv_iload_n hx hb d_MO_isCharacter_0 rfl (lv_at hl 0 rfl) ?_
  refine cx_if_lt (tgt := 14) hx hb d_MO_isCharacter_1 rfl (by omega) (fun h1 => ?_) (fun h1 => ?_)
  · refine cx_iconst hx hb d_MO_isCharacter_14 ?_
    exact hret () (Or.inl rfl) (Or.inr ⟨rfl, by omega⟩) hP hD hS d_MO_isCharacter_15
  · refine lv_iload_n hx hb d_MO_isCharacter_4 rfl (lv_at hl 0 rfl) ?_
    refine cx_bipush hx hb d_MO_isCharacter_5 rfl ?_
    refine cx_icmp_ge (tgt := 14) hx hb d_MO_isCharacter_7 rfl (by omega) (by omega) (fun h7 => ?_) (fun h7 => ?_)
    · refine cx_iconst hx hb d_MO_isCharacter_14 ?_
      exact hret () (Or.inl rfl) (Or.inr ⟨rfl, by omega⟩) hP hD hS d_MO_isCharacter_15
    · refine cx_iconst hx hb d_MO_isCharacter_10 ?_
      refine lv_goto (tgt := 15) hx hb d_MO_isCharacter_11 rfl ?_
      exact hret () (Or.inr rfl) (Or.inl ⟨rfl, by omega⟩) hP hD hS d_MO_isCharacter_15

set_option maxHeartbeats 4000000 in
set_option maxRecDepth 100000 in
theorem c_MO_zone (l : Launch) (D : va_G) (T : Nat → ClassId) (sz : Nat) (z : Int) (hz : 0 ≤ z ∧ z < 64) : MI l y_MO_zone (wY y_MO_zone b_MO_zone 1 (some .int)) (rmK 0) D vwCl (tyL T) nwL sz [.int (iI (z))] (([] : va_W)) (fun r (_ : Unit) => r = iI (zn z)) (fun _ => ([] : va_W)) := by
  refine cx_inI (by decide) rfl (Nat.le_of_ble_eq_true rfl) ?_
  intro p e s m below meth cd ls A Q hx hb hml hT hown hret hP hK hD hN hS hA hl
  have hown : s.vm.findClass R_MO = some m.cls := hown
  have hl : lv_has ls 1 [(0, .int (iI (z)))] := hl
  refine lv_iload_n hx hb d_MO_zone_0 rfl (lv_at hl 0 rfl) ?_
  refine cx_bipush hx hb d_MO_zone_1 rfl ?_
  refine lv_iand hx hb d_MO_zone_3 ?_
  refine cx_eq (bt_c48 hz) ?_
  exact hret () rfl hP hD hS d_MO_zone_4

set_option maxHeartbeats 4000000 in
set_option maxRecDepth 100000 in
theorem c_MO_value (l : Launch) (D : va_G) (T : Nat → ClassId) (sz : Nat) (z : Int) (hz : 0 ≤ z ∧ z < 64) : MI l y_MO_value (wY y_MO_value b_MO_value 1 (some .int)) (rmK 0) D vwCl (tyL T) nwL sz [.int (iI (z))] (([] : va_W)) (fun r (_ : Unit) => r = iI (vl z)) (fun _ => ([] : va_W)) := by
  refine cx_inI (by decide) rfl (Nat.le_of_ble_eq_true rfl) ?_
  intro p e s m below meth cd ls A Q hx hb hml hT hown hret hP hK hD hN hS hA hl
  have hown : s.vm.findClass R_MO = some m.cls := hown
  have hl : lv_has ls 1 [(0, .int (iI (z)))] := hl
  refine lv_iload_n hx hb d_MO_value_0 rfl (lv_at hl 0 rfl) ?_
  refine cx_bipush hx hb d_MO_value_1 rfl ?_
  refine lv_iand hx hb d_MO_value_3 ?_
  refine cx_eq (bt_c15 hz) ?_
  refine cx_bipush hx hb d_MO_value_4 rfl ?_
  refine cx_irem hx hb d_MO_value_6 (by omega) (by omega) ?_
  exact hret () rfl hP hD hS d_MO_value_7

set_option maxHeartbeats 4000000 in
set_option maxRecDepth 100000 in
theorem c_MO_digit (l : Launch) (D : va_G) (T : Nat → ClassId) (sz : Nat) (z : Int) (hz : -2147483648 ≤ z ∧ z < 2147483648) : MI l y_MO_digit (wY y_MO_digit b_MO_digit 1 (some .int)) (rmK 0) D vwCl (tyL T) nwL sz [.int (iI (z))] (([] : va_W)) (fun r (_ : Unit) => r = iI (wrt z)) (fun _ => ([] : va_W)) := by
  refine cx_inI (by decide) rfl (Nat.le_of_ble_eq_true rfl) ?_
  intro p e s m below meth cd ls A Q hx hb hml hT hown hret hP hK hD hN hS hA hl
  have hown : s.vm.findClass R_MO = some m.cls := hown
  have hl : lv_has ls 1 [(0, .int (iI (z)))] := hl
  refine lv_iload_n hx hb d_MO_digit_0 rfl (lv_at hl 0 rfl) ?_
  refine cx_if_ne (tgt := 9) hx hb d_MO_digit_1 rfl (by omega) (fun h1 => ?_) (fun h1 => ?_)
  · refine lv_iload_n hx hb d_MO_digit_9 rfl (lv_at hl 0 rfl) ?_
    exact hret () (by unfold wrt; rw [if_neg (by omega)]) hP hD hS d_MO_digit_10
  · refine cx_bipush hx hb d_MO_digit_4 rfl ?_
    refine lv_goto (tgt := 10) hx hb d_MO_digit_6 rfl ?_
    exact hret () (by unfold wrt; rw [if_pos (by omega)]) hP hD hS d_MO_digit_10

set_option maxHeartbeats 4000000 in
set_option maxRecDepth 100000 in
theorem c_MO_isMinus (l : Launch) (D : va_G) (T : Nat → ClassId) (sz : Nat) (z : Int) (hz : 0 ≤ z ∧ z < 64) : MI l y_MO_isMinus (wY y_MO_isMinus b_MO_isMinus 1 (some .boolean)) (rmK 1) D vwCl (tyL T) nwL sz [.int (iI (z))] (([] : va_W)) (fun r (_ : Unit) => (r = iI 1 ∧ (zn z = 32)) ∨ (r = iI 0 ∧ (¬ zn z = 32))) (fun _ => ([] : va_W)) := by
  refine cx_inZ (by decide) rfl (Nat.le_of_ble_eq_true rfl) ?_
  intro p e s m below meth cd ls A Q hx hb hml hT hown hret hP hK hD hN hS hA hl
  have hown : s.vm.findClass R_MO = some m.cls := hown
  have hl : lv_has ls 1 [(0, .int (iI (z)))] := hl
  have h9 := zn_in hz
  refine lv_iload_n hx hb d_MO_isMinus_0 rfl (lv_at hl 0 rfl) ?_
  have hP : va_P D vwCl ([] : va_W) s.heap := hP
  refine cx_cI (ws2 := fun _ => ([] : va_W)) (cx_rS (rest := []) (As := [.int (iI (z))]) hx hb hml hown hT hK hN hP hD hl.1 tw_793 k_MO_zone (c_MO_zone l D T s.heap.size z (by omega)) ⟨by decide, by decide⟩ ⟨rfl, rfl⟩ [] (by decide) rfl rfl rfl (Nat.le_of_ble_eq_true rfl) ⟨Nat.zero_le _, Nat.zero_le _⟩ d_MO_isMinus_1) hP hD hS hA [] [] [] rfl (wr := []) rfl (by decide) (by decide) (fun _ => rfl) (by decide) (fun r u_ H locs hq1 hP hD hS => ?_)
  subst hq1
  refine cx_bipush hx hb d_MO_isMinus_4 rfl ?_
  refine cx_icmp_ne (tgt := 13) hx hb d_MO_isMinus_6 rfl (by omega) (by omega) (fun h6 => ?_) (fun h6 => ?_)
  · refine cx_iconst hx hb d_MO_isMinus_13 ?_
    exact hret () (Or.inl rfl) (Or.inr ⟨rfl, by omega⟩) hP hD hS d_MO_isMinus_14
  · refine cx_iconst hx hb d_MO_isMinus_9 ?_
    refine lv_goto (tgt := 14) hx hb d_MO_isMinus_10 rfl ?_
    exact hret () (Or.inr rfl) (Or.inl ⟨rfl, by omega⟩) hP hD hS d_MO_isMinus_14

set_option maxHeartbeats 4000000 in
set_option maxRecDepth 100000 in
theorem c_MO_rank (l : Launch) (D : va_G) (T : Nat → ClassId) (sz : Nat) (z : Int) (hz : 0 ≤ z ∧ z < 64) : MI l y_MO_rank (wY y_MO_rank b_MO_rank 4 (some .int)) (rmK 0) D vwCl (tyL T) nwL sz [.int (iI (z))] (([] : va_W)) (fun r (_ : Unit) => r = iI (rnk z)) (fun _ => ([] : va_W)) := by
  refine cx_inI (by decide) rfl (Nat.le_of_ble_eq_true rfl) ?_
  intro p e s m below meth cd ls A Q hx hb hml hT hown hret hP hK hD hN hS hA hl
  have hown : s.vm.findClass R_MO = some m.cls := hown
  have hl : lv_has ls 4 [(0, .int (iI (z)))] := hl
  refine lv_iload_n hx hb d_MO_rank_0 rfl (lv_at hl 0 rfl) ?_
  refine cx_bipush hx hb d_MO_rank_1 rfl ?_
  refine lv_iand hx hb d_MO_rank_3 ?_
  refine cx_eq (bt_c15 hz) ?_
  refine lv_istore_n (lv' := [(1, .int (iI (z % 16))), (0, .int (iI (z)))]) hx hb d_MO_rank_4 rfl hl (by decide) rfl (fun ls hl => ?_)
  refine lv_iload_n hx hb d_MO_rank_5 rfl (lv_at hl 0 rfl) ?_
  refine cx_if_eq (tgt := 15) hx hb d_MO_rank_6 rfl (by omega) (fun h6 => ?_) (fun h6 => ?_)
  · refine cx_iconst hx hb d_MO_rank_15 ?_
    refine lv_goto (tgt := 20) hx hb d_MO_rank_16 rfl ?_
    refine lv_istore_n (lv' := [(2, .int (iI (1))), (1, .int (iI (z % 16))), (0, .int (iI (z)))]) hx hb d_MO_rank_20 rfl hl (by decide) rfl (fun ls hl => ?_)
    refine cx_iconst hx hb d_MO_rank_21 ?_
    refine lv_iload_n hx hb d_MO_rank_22 rfl (lv_at hl 2 rfl) ?_
    refine cx_iconst hx hb d_MO_rank_23 ?_
    refine lv_ishr hx hb d_MO_rank_24 ?_
    refine cx_eq (sh4 hz) ?_
    refine cx_isub hx hb d_MO_rank_25 ?_
    refine lv_istore_n (lv' := [(3, .int (iI (3 - (z / 16)))), (2, .int (iI (1))), (1, .int (iI (z % 16))), (0, .int (iI (z)))]) hx hb d_MO_rank_26 rfl hl (by decide) rfl (fun ls hl => ?_)
    refine lv_iload_n hx hb d_MO_rank_27 rfl (lv_at hl 1 rfl) ?_
    refine cx_if_eq (tgt := 40) hx hb d_MO_rank_28 rfl (by omega) (fun h0 => absurd h0 (by decide)) (fun _ => ?_)
    refine cx_bipush hx hb d_MO_rank_31 rfl ?_
    refine lv_iload_n hx hb d_MO_rank_33 rfl (lv_at hl 0 rfl) ?_
    refine cx_imul hx hb d_MO_rank_34 ?_
    refine lv_iload_n hx hb d_MO_rank_35 rfl (lv_at hl 2 rfl) ?_
    refine cx_iadd hx hb d_MO_rank_36 ?_
    refine lv_goto (tgt := 59) hx hb d_MO_rank_37 rfl ?_
    exact hret () (by unfold rnk; congr 1; omega) hP hD hS d_MO_rank_59
  · refine lv_iload_n hx hb d_MO_rank_9 rfl (lv_at hl 0 rfl) ?_
    refine cx_bipush hx hb d_MO_rank_10 rfl ?_
    refine cx_icmp_le (tgt := 19) hx hb d_MO_rank_12 rfl (by omega) (by omega) (fun h12 => ?_) (fun h12 => ?_)
    · refine cx_iconst hx hb d_MO_rank_19 ?_
      refine lv_istore_n (lv' := [(2, .int (iI (0))), (1, .int (iI (z % 16))), (0, .int (iI (z)))]) hx hb d_MO_rank_20 rfl hl (by decide) rfl (fun ls hl => ?_)
      refine cx_iconst hx hb d_MO_rank_21 ?_
      refine lv_iload_n hx hb d_MO_rank_22 rfl (lv_at hl 2 rfl) ?_
      refine cx_iconst hx hb d_MO_rank_23 ?_
      refine lv_ishr hx hb d_MO_rank_24 ?_
      refine cx_eq (sh4 hz) ?_
      refine cx_isub hx hb d_MO_rank_25 ?_
      refine lv_istore_n (lv' := [(3, .int (iI (3 - (z / 16)))), (2, .int (iI (0))), (1, .int (iI (z % 16))), (0, .int (iI (z)))]) hx hb d_MO_rank_26 rfl hl (by decide) rfl (fun ls hl => ?_)
      refine lv_iload_n hx hb d_MO_rank_27 rfl (lv_at hl 1 rfl) ?_
      refine cx_if_eq (tgt := 40) hx hb d_MO_rank_28 rfl (by omega) (fun _ => ?_) (fun h0 => absurd h0 (by decide))
      refine cx_bipush hx hb d_MO_rank_40 rfl ?_
      refine cx_bipush hx hb d_MO_rank_42 rfl ?_
      refine lv_iload_n hx hb d_MO_rank_44 rfl (lv_at hl 0 rfl) ?_
      refine cx_imul hx hb d_MO_rank_45 ?_
      refine cx_iadd hx hb d_MO_rank_46 ?_
      refine lv_iload_n hx hb d_MO_rank_47 rfl (lv_at hl 2 rfl) ?_
      refine cx_bipush hx hb d_MO_rank_48 rfl ?_
      refine cx_icmp_ne (tgt := 57) hx hb d_MO_rank_50 rfl (by omega) (by omega) (fun h50 => ?_) (fun h50 => ?_)
      · refine lv_iload_n hx hb d_MO_rank_57 rfl (lv_at hl 2 rfl) ?_
        refine cx_iadd hx hb d_MO_rank_58 ?_
        exact hret () (by unfold rnk; congr 1; omega) hP hD hS d_MO_rank_59
      · refine cx_iconst hx hb d_MO_rank_53 ?_
        refine lv_goto (tgt := 58) hx hb d_MO_rank_54 rfl ?_
        refine cx_iadd hx hb d_MO_rank_58 ?_
        exact hret () (by unfold rnk; congr 1; omega) hP hD hS d_MO_rank_59
    · refine cx_iconst hx hb d_MO_rank_15 ?_
      refine lv_goto (tgt := 20) hx hb d_MO_rank_16 rfl ?_
      refine lv_istore_n (lv' := [(2, .int (iI (1))), (1, .int (iI (z % 16))), (0, .int (iI (z)))]) hx hb d_MO_rank_20 rfl hl (by decide) rfl (fun ls hl => ?_)
      refine cx_iconst hx hb d_MO_rank_21 ?_
      refine lv_iload_n hx hb d_MO_rank_22 rfl (lv_at hl 2 rfl) ?_
      refine cx_iconst hx hb d_MO_rank_23 ?_
      refine lv_ishr hx hb d_MO_rank_24 ?_
      refine cx_eq (sh4 hz) ?_
      refine cx_isub hx hb d_MO_rank_25 ?_
      refine lv_istore_n (lv' := [(3, .int (iI (3 - (z / 16)))), (2, .int (iI (1))), (1, .int (iI (z % 16))), (0, .int (iI (z)))]) hx hb d_MO_rank_26 rfl hl (by decide) rfl (fun ls hl => ?_)
      refine lv_iload_n hx hb d_MO_rank_27 rfl (lv_at hl 1 rfl) ?_
      refine cx_if_eq (tgt := 40) hx hb d_MO_rank_28 rfl (by omega) (fun h0 => absurd h0 (by decide)) (fun _ => ?_)
      refine cx_bipush hx hb d_MO_rank_31 rfl ?_
      refine lv_iload_n hx hb d_MO_rank_33 rfl (lv_at hl 0 rfl) ?_
      refine cx_imul hx hb d_MO_rank_34 ?_
      refine lv_iload_n hx hb d_MO_rank_35 rfl (lv_at hl 2 rfl) ?_
      refine cx_iadd hx hb d_MO_rank_36 ?_
      refine lv_goto (tgt := 59) hx hb d_MO_rank_37 rfl ?_
      exact hret () (by unfold rnk; congr 1; omega) hP hD hS d_MO_rank_59

set_option maxHeartbeats 4000000 in
set_option maxRecDepth 100000 in
theorem c_MO_isArithmetic (l : Launch) (D : va_G) (T : Nat → ClassId) (sz : Nat) (z : Int) (hz : -2147483648 ≤ z ∧ z < 2147483648) : MI l y_MO_isArithmetic (wY y_MO_isArithmetic b_MO_isArithmetic 1 (some .boolean)) (rmK 0) D vwCl (tyL T) nwL sz [.int (iI (z))] (([] : va_W)) (fun r (_ : Unit) => (r = iI 1 ∧ (z = 49 ∨ z = 18 ∨ z = 58 ∨ z = 42)) ∨ (r = iI 0 ∧ (¬ (z = 49 ∨ z = 18 ∨ z = 58 ∨ z = 42)))) (fun _ => ([] : va_W)) := by
  refine cx_inZ (by decide) rfl (Nat.le_of_ble_eq_true rfl) ?_
  intro p e s m below meth cd ls A Q hx hb hml hT hown hret hP hK hD hN hS hA hl
  have hown : s.vm.findClass R_MO = some m.cls := hown
  have hl : lv_has ls 1 [(0, .int (iI (z)))] := hl
  refine lv_iload_n hx hb d_MO_isArithmetic_0 rfl (lv_at hl 0 rfl) ?_
  refine cx_bipush hx hb d_MO_isArithmetic_1 rfl ?_
  refine cx_icmp_eq (tgt := 24) hx hb d_MO_isArithmetic_3 rfl (by omega) (by omega) (fun h3 => ?_) (fun h3 => ?_)
  · refine cx_iconst hx hb d_MO_isArithmetic_24 ?_
    refine lv_goto (tgt := 29) hx hb d_MO_isArithmetic_25 rfl ?_
    exact hret () (Or.inr rfl) (Or.inl ⟨rfl, by omega⟩) hP hD hS d_MO_isArithmetic_29
  · refine lv_iload_n hx hb d_MO_isArithmetic_6 rfl (lv_at hl 0 rfl) ?_
    refine cx_bipush hx hb d_MO_isArithmetic_7 rfl ?_
    refine cx_icmp_eq (tgt := 24) hx hb d_MO_isArithmetic_9 rfl (by omega) (by omega) (fun h9 => ?_) (fun h9 => ?_)
    · refine cx_iconst hx hb d_MO_isArithmetic_24 ?_
      refine lv_goto (tgt := 29) hx hb d_MO_isArithmetic_25 rfl ?_
      exact hret () (Or.inr rfl) (Or.inl ⟨rfl, by omega⟩) hP hD hS d_MO_isArithmetic_29
    · refine lv_iload_n hx hb d_MO_isArithmetic_12 rfl (lv_at hl 0 rfl) ?_
      refine cx_bipush hx hb d_MO_isArithmetic_13 rfl ?_
      refine cx_icmp_eq (tgt := 24) hx hb d_MO_isArithmetic_15 rfl (by omega) (by omega) (fun h15 => ?_) (fun h15 => ?_)
      · refine cx_iconst hx hb d_MO_isArithmetic_24 ?_
        refine lv_goto (tgt := 29) hx hb d_MO_isArithmetic_25 rfl ?_
        exact hret () (Or.inr rfl) (Or.inl ⟨rfl, by omega⟩) hP hD hS d_MO_isArithmetic_29
      · refine lv_iload_n hx hb d_MO_isArithmetic_18 rfl (lv_at hl 0 rfl) ?_
        refine cx_bipush hx hb d_MO_isArithmetic_19 rfl ?_
        refine cx_icmp_ne (tgt := 28) hx hb d_MO_isArithmetic_21 rfl (by omega) (by omega) (fun h21 => ?_) (fun h21 => ?_)
        · refine cx_iconst hx hb d_MO_isArithmetic_28 ?_
          exact hret () (Or.inl rfl) (Or.inr ⟨rfl, by omega⟩) hP hD hS d_MO_isArithmetic_29
        · refine cx_iconst hx hb d_MO_isArithmetic_24 ?_
          refine lv_goto (tgt := 29) hx hb d_MO_isArithmetic_25 rfl ?_
          exact hret () (Or.inr rfl) (Or.inl ⟨rfl, by omega⟩) hP hD hS d_MO_isArithmetic_29

set_option maxHeartbeats 4000000 in
set_option maxRecDepth 100000 in
theorem c_MO_set (l : Launch) (D : va_G) (T : Nat → ClassId) (sz : Nat) (q : Nat → Nat) (n : Nat) (hn : 400 ≤ n ∧ n ≤ 2000) (x y : SX) (hX : okX x) (z : Int) (hz : -2147483648 ≤ z ∧ z < 2147483648) (v : Int) (hv : -2147483648 ≤ v ∧ v < 2147483648) (k : Int) (hk : k = 0 ∨ k = 1) : MI l y_MO_set (wY y_MO_set b_MO_set 4 (some .boolean)) (rmK 1) D vwCl (tyL T) nwL sz [.ref (q 20), .int (iI (z)), .int (iI (v)), .int (iI (k))] (moW T q n (x 0) (x 1) (mkF (x 2) (x 18 0)) (cdF (x 2) (x 18 0)) (x 3) (x 4) (x 11 0) (x 12 0) (x 13 0) (x 14 0) (x 15 0) (x 16 0) (x 17 0) (x 18 0) (x 19 0) (x 20 0) (x 21 0) (x 22 0) (y 31 0) (y 32 0) (y 33 0) (y 34 0) (y 35 0) (y 36 0) (y 37) (y 38) (y 39)) (fun r (u : SX × SX) => pst (setS n z v k x) r u.1 ∧ u.2 = up y 31 (cst 0)) (fun (u : SX × SX) => moX T q n u.1 u.2) := by
  refine cx_inZ (by decide) rfl (Nat.le_of_ble_eq_true rfl) ?_
  intro p e s m below meth cd ls A Q hx hb hml hT hown hret hP hK hD hN hS hA hl
  have hown : s.vm.findClass R_MO = some m.cls := hown
  have hl : lv_has ls 4 [(0, .ref (q 20)), (1, .int (iI (z))), (2, .int (iI (v))), (3, .int (iI (k)))] := hl
  have hC := hX.1
  have hR0 := hX.2.1
  have hF := hX.2.2
  unfold okR at hR0
  refine lv_aload_n hx hb d_MO_set_0 rfl (lv_at hl 0 rfl) ?_
  refine cx_iconst hx hb d_MO_set_1 ?_
  refine va_put (D := D) (ci := 5) (v := .int (iI (0))) (ty := .int) (C := R_MO) (T := T_MO) (N := 28) hx hb hT lays_MO t_MO t_MO_ok n_MO hown hK hP hD hS 0 rfl rfl 0 (by decide) (hT _ tw_636) (fun _ h9 => h9) rfl (by decide +kernel) rfl rfl (Nat.le_of_ble_eq_true rfl) d_MO_set_2 (fun H locs hP hD hS => ?_)
  have hP : va_P D vwCl (moW T q n (x 0) (x 1) (mkF (x 2) (x 18 0)) (cdF (x 2) (x 18 0)) (x 3) (x 4) (x 11 0) (x 12 0) (x 13 0) (x 14 0) (x 15 0) (x 16 0) (x 17 0) (x 18 0) (x 19 0) (x 20 0) (x 21 0) (x 22 0) 0 (y 32 0) (y 33 0) (y 34 0) (y 35 0) (y 36 0) (y 37) (y 38) (y 39)) H := hP
  have hD : va_D A (moW T q n (x 0) (x 1) (mkF (x 2) (x 18 0)) (cdF (x 2) (x 18 0)) (x 3) (x 4) (x 11 0) (x 12 0) (x 13 0) (x 14 0) (x 15 0) (x 16 0) (x 17 0) (x 18 0) (x 19 0) (x 20 0) (x 21 0) (x 22 0) 0 (y 32 0) (y 33 0) (y 34 0) (y 35 0) (y 36 0) (y 37) (y 38) (y 39)) := hD
  refine lv_aload_n hx hb d_MO_set_5 rfl (lv_at hl 0 rfl) ?_
  refine lv_iload_n hx hb d_MO_set_6 rfl (lv_at hl 1 rfl) ?_
  refine cx_cI (ws2 := fun _ => moW T q n (x 0) (x 1) (mkF (x 2) (x 18 0)) (cdF (x 2) (x 18 0)) (x 3) (x 4) (x 11 0) (x 12 0) (x 13 0) (x 14 0) (x 15 0) (x 16 0) (x 17 0) (x 18 0) (x 19 0) (x 20 0) (x 21 0) (x 22 0) 0 (y 32 0) (y 33 0) (y 34 0) (y 35 0) (y 36 0) (y 37) (y 38) (y 39)) (cx_rV (q0 := 0) (ci := 5) (rest := []) (As := [.int (iI (z))]) hx hb hml hown hT hK hN hP hD hl.1 tw_731 k_MO_is (c_MO_is l D T H.size q n hn x (up y 31 (cst 0)) hX z (by omega)) ⟨by decide, by decide⟩ ⟨rfl, rfl⟩ [0, 1, 2, 3, 4, 5, 6, 7, 8, 9] (by decide) rfl rfl rfl rfl rfl (Nat.le_of_ble_eq_true rfl) ⟨Nat.zero_le _, Nat.zero_le _⟩ d_MO_set_7) hP hD hS hA [0, 1, 2, 3, 4, 5, 6, 7, 8, 9] [] [0, 1, 2, 3, 4, 5, 6, 7, 8, 9] rfl (wr := []) rfl (by decide) (by decide) (fun _ => rfl) (by decide) (fun r u_ H locs hq7 hP hD hS => ?_)
  rcases hq7 with ⟨rfl, h7⟩ | ⟨rfl, h7⟩
  · refine cx_if_eq (tgt := 20) hx hb d_MO_set_10 rfl (by omega) (fun h0 => absurd h0 (by decide)) (fun _ => ?_)
    refine lv_iload_n hx hb d_MO_set_13 rfl (lv_at hl 2 rfl) ?_
    refine cx_cI (ws2 := fun _ => moW T q n (x 0) (x 1) (mkF (x 2) (x 18 0)) (cdF (x 2) (x 18 0)) (x 3) (x 4) (x 11 0) (x 12 0) (x 13 0) (x 14 0) (x 15 0) (x 16 0) (x 17 0) (x 18 0) (x 19 0) (x 20 0) (x 21 0) (x 22 0) 0 (y 32 0) (y 33 0) (y 34 0) (y 35 0) (y 36 0) (y 37) (y 38) (y 39)) (cx_rS (rest := []) (As := [.int (iI (v))]) hx hb hml hown hT hK hN hP hD hl.1 tw_735 k_MO_isCharacter (c_MO_isCharacter l D T H.size v (by omega)) ⟨by decide, by decide⟩ ⟨rfl, rfl⟩ [] (by decide) rfl rfl rfl (Nat.le_of_ble_eq_true rfl) ⟨Nat.zero_le _, Nat.zero_le _⟩ d_MO_set_14) hP hD hS hA [] [0, 1, 2, 3, 4, 5, 6, 7, 8, 9] [0, 1, 2, 3, 4, 5, 6, 7, 8, 9] rfl (wr := [(q 20, .inr (5, [.int (iI (0)), .int (iI ((n : Int))), .ref (q 21), .ref (q 22), .int (iI (x 11 0)), .int (iI (x 12 0)), .int (iI (x 13 0)), .int (iI (x 14 0)), .int (iI (x 15 0)), .int (iI (x 16 0)), .int (iI (x 21 0)), .int (iI (x 22 0)), .int (iI (y 32 0)), .int (iI (y 33 0)), .int (iI (y 34 0)), .int (iI (y 35 0)), .int (iI (y 36 0)), .ref (q 23), .int (iI (x 18 0)), .int (iI (x 17 0)), .ref (q 24), .int (iI (x 19 0)), .ref (q 25), .int (iI (x 20 0)), .ref (q 26), .ref (q 27), .ref (q 28), .ref (q 29)])), (q 21, .inl (T 1, 2000, .inl (fun jj : Nat => (iF (x 0)) (jj : Int)))), (q 22, .inl (T 2, 2000, .inl (fun jj : Nat => (iF (x 1)) (jj : Int)))), (q 23, .inl (T 1, 80, .inl (fun jj : Nat => (iF (mkF (x 2) (x 18 0))) (jj : Int)))), (q 24, .inl (T 1, 1600, .inl (fun jj : Nat => (iF (cdF (x 2) (x 18 0))) (jj : Int)))), (q 25, .inl (T 1, 5280, .inl (fun jj : Nat => (iF (x 3)) (jj : Int)))), (q 26, .inl (T 1, 1600, .inl (fun jj : Nat => (iF (x 4)) (jj : Int)))), (q 27, .inl (T 0, 2000, .inl (fun jj : Nat => (iF (y 37)) (jj : Int)))), (q 28, .inl (T 0, 2000, .inl (fun jj : Nat => (iF (y 38)) (jj : Int)))), (q 29, .inl (T 1, 2000, .inl (fun jj : Nat => (iF (y 39)) (jj : Int))))]) rfl (by decide) (by decide) (fun _ => rfl) (by decide) (fun r u_ H locs hq14 hP hD hS => ?_)
    rcases hq14 with ⟨rfl, h14⟩ | ⟨rfl, h14⟩
    · refine cx_if_ne (tgt := 22) hx hb d_MO_set_17 rfl (by omega) (fun _ => ?_) (fun h0 => absurd h0 (by decide))
      refine lv_aload_n hx hb d_MO_set_22 rfl (lv_at hl 0 rfl) ?_
      refine va_get (D := D) (ci := 5) (v := .ref (q 21)) (C := R_MO) (T := T_MO) (N := 28) hx hb hT lays_MO hown hK hP 0 rfl rfl 2 (by decide) (hT _ tw_638) (fun _ h9 => h9) rfl d_MO_set_23 ?_
      refine lv_iload_n hx hb d_MO_set_26 rfl (lv_at hl 1 rfl) ?_
      refine lv_iload_n hx hb d_MO_set_27 rfl (lv_at hl 2 rfl) ?_
      refine lv_i2b (v := iI (v)) hx hb d_MO_set_28 (i2b_ok (by omega)) ?_
      refine cx_bast (g := iF (x 0)) (g' := iF (fu (x 0) (z) (v))) hx hb hK hP hD hS 1 1 rfl rfl (by omega) (by omega) (by omega) (fun j => iF_put j) d_MO_set_29 (fun H locs hP hD hS => ?_)
      have hP : va_P D vwCl (moW T q n (fu (x 0) (z) (v)) (x 1) (mkF (x 2) (x 18 0)) (cdF (x 2) (x 18 0)) (x 3) (x 4) (x 11 0) (x 12 0) (x 13 0) (x 14 0) (x 15 0) (x 16 0) (x 17 0) (x 18 0) (x 19 0) (x 20 0) (x 21 0) (x 22 0) 0 (y 32 0) (y 33 0) (y 34 0) (y 35 0) (y 36 0) (y 37) (y 38) (y 39)) H := hP
      have hD : va_D A (moW T q n (fu (x 0) (z) (v)) (x 1) (mkF (x 2) (x 18 0)) (cdF (x 2) (x 18 0)) (x 3) (x 4) (x 11 0) (x 12 0) (x 13 0) (x 14 0) (x 15 0) (x 16 0) (x 17 0) (x 18 0) (x 19 0) (x 20 0) (x 21 0) (x 22 0) 0 (y 32 0) (y 33 0) (y 34 0) (y 35 0) (y 36 0) (y 37) (y 38) (y 39)) := hD
      have hC : okC (fu (x 0) (z) (v)) (x 1) := okC_fu hC (by omega)
      refine lv_aload_n hx hb d_MO_set_30 rfl (lv_at hl 0 rfl) ?_
      refine va_get (D := D) (ci := 5) (v := .ref (q 22)) (C := R_MO) (T := T_MO) (N := 28) hx hb hT lays_MO hown hK hP 0 rfl rfl 3 (by decide) (hT _ tw_639) (fun _ h9 => h9) rfl d_MO_set_31 ?_
      refine lv_iload_n hx hb d_MO_set_34 rfl (lv_at hl 1 rfl) ?_
      refine lv_iload_n hx hb d_MO_set_35 rfl (lv_at hl 3 rfl) ?_
      refine cx_zast (g := iF (x 1)) (g' := iF (fu (x 1) (z) (k))) hx hb hK hP hD hS 2 2 rfl rfl (by omega) (by omega) (by omega) (fun j => iF_put j) d_MO_set_36 (fun H locs hP hD hS => ?_)
      have hP : va_P D vwCl (moW T q n (fu (x 0) (z) (v)) (fu (x 1) (z) (k)) (mkF (x 2) (x 18 0)) (cdF (x 2) (x 18 0)) (x 3) (x 4) (x 11 0) (x 12 0) (x 13 0) (x 14 0) (x 15 0) (x 16 0) (x 17 0) (x 18 0) (x 19 0) (x 20 0) (x 21 0) (x 22 0) 0 (y 32 0) (y 33 0) (y 34 0) (y 35 0) (y 36 0) (y 37) (y 38) (y 39)) H := hP
      have hD : va_D A (moW T q n (fu (x 0) (z) (v)) (fu (x 1) (z) (k)) (mkF (x 2) (x 18 0)) (cdF (x 2) (x 18 0)) (x 3) (x 4) (x 11 0) (x 12 0) (x 13 0) (x 14 0) (x 15 0) (x 16 0) (x 17 0) (x 18 0) (x 19 0) (x 20 0) (x 21 0) (x 22 0) 0 (y 32 0) (y 33 0) (y 34 0) (y 35 0) (y 36 0) (y 37) (y 38) (y 39)) := hD
      have hC : okC (fu (x 0) (z) (v)) (fu (x 1) (z) (k)) := okC_mk hC (by omega)
      refine cx_iconst hx hb d_MO_set_37 ?_
      exact hret ((up (up x 0 (fu (x 0) (z) (v))) 1 (fu (x 1) (z) (k)), up y 31 (cst 0)) : SX × SX) (Or.inr rfl) (⟨pst_of (by unfold setS; rw [if_pos (by omega)]) (show okX (up (up x 0 (fu (x 0) (z) (v))) 1 (fu (x 1) (z) (k))) from ⟨hC, (show okR (x 11 0) (x 12 0) (x 13 0) (x 14 0) (x 15 0) (x 16 0) (x 17 0) (x 18 0) (x 19 0) (x 20 0) by have h8 := hX.2.1; unfold okR at h8 ⊢; omega), hX.2.2⟩), rfl⟩) hP hD hS d_MO_set_38
    · refine cx_if_ne (tgt := 22) hx hb d_MO_set_17 rfl (by omega) (fun h0 => absurd h0 (by decide)) (fun _ => ?_)
      refine cx_iconst hx hb d_MO_set_20 ?_
      exact hret ((x, up y 31 (cst 0)) : SX × SX) (Or.inl rfl) (⟨pst_of (by unfold setS; rw [if_neg (by omega)]) hX, rfl⟩) hP hD hS d_MO_set_21
  · refine cx_if_eq (tgt := 20) hx hb d_MO_set_10 rfl (by omega) (fun _ => ?_) (fun h0 => absurd h0 (by decide))
    refine cx_iconst hx hb d_MO_set_20 ?_
    exact hret ((x, up y 31 (cst 0)) : SX × SX) (Or.inl rfl) (⟨pst_of (by unfold setS; rw [if_neg (by omega)]) hX, rfl⟩) hP hD hS d_MO_set_21

set_option maxHeartbeats 4000000 in
set_option maxRecDepth 100000 in
theorem c_MO_column (l : Launch) (D : va_G) (T : Nat → ClassId) (sz : Nat) (q : Nat → Nat) (n : Nat) (hn : 400 ≤ n ∧ n ≤ 2000) (x y : SX) (hX : okX x) (k : Int) (hk : -2147483648 ≤ k ∧ k < 2147483648) (v : Int) (hv : -2147483648 ≤ v ∧ v < 2147483648) : MI l y_MO_column (wY y_MO_column b_MO_column 3 (some .boolean)) (rmK 1) D vwCl (tyL T) nwL sz [.ref (q 20), .int (iI (k)), .int (iI (v))] (moW T q n (x 0) (x 1) (mkF (x 2) (x 18 0)) (cdF (x 2) (x 18 0)) (x 3) (x 4) (x 11 0) (x 12 0) (x 13 0) (x 14 0) (x 15 0) (x 16 0) (x 17 0) (x 18 0) (x 19 0) (x 20 0) (x 21 0) (x 22 0) (y 31 0) (y 32 0) (y 33 0) (y 34 0) (y 35 0) (y 36 0) (y 37) (y 38) (y 39)) (fun r (u : SX × SX) => pst (colS k v x) r u.1 ∧ u.2 = up y 31 (cst 0)) (fun (u : SX × SX) => moX T q n u.1 u.2) := by
  refine cx_inZ (by decide) rfl (Nat.le_of_ble_eq_true rfl) ?_
  intro p e s m below meth cd ls A Q hx hb hml hT hown hret hP hK hD hN hS hA hl
  have hown : s.vm.findClass R_MO = some m.cls := hown
  have hl : lv_has ls 3 [(0, .ref (q 20)), (1, .int (iI (k))), (2, .int (iI (v)))] := hl
  have hC := hX.1
  have hR0 := hX.2.1
  have hF := hX.2.2
  unfold okR at hR0
  refine lv_aload_n hx hb d_MO_column_0 rfl (lv_at hl 0 rfl) ?_
  refine cx_iconst hx hb d_MO_column_1 ?_
  refine va_put (D := D) (ci := 5) (v := .int (iI (0))) (ty := .int) (C := R_MO) (T := T_MO) (N := 28) hx hb hT lays_MO t_MO t_MO_ok n_MO hown hK hP hD hS 0 rfl rfl 0 (by decide) (hT _ tw_636) (fun _ h9 => h9) rfl (by decide +kernel) rfl rfl (Nat.le_of_ble_eq_true rfl) d_MO_column_2 (fun H locs hP hD hS => ?_)
  have hP : va_P D vwCl (moW T q n (x 0) (x 1) (mkF (x 2) (x 18 0)) (cdF (x 2) (x 18 0)) (x 3) (x 4) (x 11 0) (x 12 0) (x 13 0) (x 14 0) (x 15 0) (x 16 0) (x 17 0) (x 18 0) (x 19 0) (x 20 0) (x 21 0) (x 22 0) 0 (y 32 0) (y 33 0) (y 34 0) (y 35 0) (y 36 0) (y 37) (y 38) (y 39)) H := hP
  have hD : va_D A (moW T q n (x 0) (x 1) (mkF (x 2) (x 18 0)) (cdF (x 2) (x 18 0)) (x 3) (x 4) (x 11 0) (x 12 0) (x 13 0) (x 14 0) (x 15 0) (x 16 0) (x 17 0) (x 18 0) (x 19 0) (x 20 0) (x 21 0) (x 22 0) 0 (y 32 0) (y 33 0) (y 34 0) (y 35 0) (y 36 0) (y 37) (y 38) (y 39)) := hD
  refine lv_iload_n hx hb d_MO_column_5 rfl (lv_at hl 1 rfl) ?_
  refine cx_iconst hx hb d_MO_column_6 ?_
  refine cx_icmp_lt (tgt := 23) hx hb d_MO_column_7 rfl (by omega) (by omega) (fun h7 => ?_) (fun h7 => ?_)
  · refine cx_iconst hx hb d_MO_column_23 ?_
    exact hret ((x, up y 31 (cst 0)) : SX × SX) (Or.inl rfl) (⟨pst_of (by unfold colS; rw [if_neg (by omega)]) hX, rfl⟩) hP hD hS d_MO_column_24
  · refine lv_iload_n hx hb d_MO_column_10 rfl (lv_at hl 1 rfl) ?_
    refine cx_bipush hx hb d_MO_column_11 rfl ?_
    refine cx_icmp_gt (tgt := 23) hx hb d_MO_column_13 rfl (by omega) (by omega) (fun h13 => ?_) (fun h13 => ?_)
    · refine cx_iconst hx hb d_MO_column_23 ?_
      exact hret ((x, up y 31 (cst 0)) : SX × SX) (Or.inl rfl) (⟨pst_of (by unfold colS; rw [if_neg (by omega)]) hX, rfl⟩) hP hD hS d_MO_column_24
    · refine lv_iload_n hx hb d_MO_column_16 rfl (lv_at hl 2 rfl) ?_
      refine cx_cI (ws2 := fun _ => moW T q n (x 0) (x 1) (mkF (x 2) (x 18 0)) (cdF (x 2) (x 18 0)) (x 3) (x 4) (x 11 0) (x 12 0) (x 13 0) (x 14 0) (x 15 0) (x 16 0) (x 17 0) (x 18 0) (x 19 0) (x 20 0) (x 21 0) (x 22 0) 0 (y 32 0) (y 33 0) (y 34 0) (y 35 0) (y 36 0) (y 37) (y 38) (y 39)) (cx_rS (rest := []) (As := [.int (iI (v))]) hx hb hml hown hT hK hN hP hD hl.1 tw_735 k_MO_isCharacter (c_MO_isCharacter l D T H.size v (by omega)) ⟨by decide, by decide⟩ ⟨rfl, rfl⟩ [] (by decide) rfl rfl rfl (Nat.le_of_ble_eq_true rfl) ⟨Nat.zero_le _, Nat.zero_le _⟩ d_MO_column_17) hP hD hS hA [] [0, 1, 2, 3, 4, 5, 6, 7, 8, 9] [0, 1, 2, 3, 4, 5, 6, 7, 8, 9] rfl (wr := [(q 20, .inr (5, [.int (iI (0)), .int (iI ((n : Int))), .ref (q 21), .ref (q 22), .int (iI (x 11 0)), .int (iI (x 12 0)), .int (iI (x 13 0)), .int (iI (x 14 0)), .int (iI (x 15 0)), .int (iI (x 16 0)), .int (iI (x 21 0)), .int (iI (x 22 0)), .int (iI (y 32 0)), .int (iI (y 33 0)), .int (iI (y 34 0)), .int (iI (y 35 0)), .int (iI (y 36 0)), .ref (q 23), .int (iI (x 18 0)), .int (iI (x 17 0)), .ref (q 24), .int (iI (x 19 0)), .ref (q 25), .int (iI (x 20 0)), .ref (q 26), .ref (q 27), .ref (q 28), .ref (q 29)])), (q 21, .inl (T 1, 2000, .inl (fun jj : Nat => (iF (x 0)) (jj : Int)))), (q 22, .inl (T 2, 2000, .inl (fun jj : Nat => (iF (x 1)) (jj : Int)))), (q 23, .inl (T 1, 80, .inl (fun jj : Nat => (iF (mkF (x 2) (x 18 0))) (jj : Int)))), (q 24, .inl (T 1, 1600, .inl (fun jj : Nat => (iF (cdF (x 2) (x 18 0))) (jj : Int)))), (q 25, .inl (T 1, 5280, .inl (fun jj : Nat => (iF (x 3)) (jj : Int)))), (q 26, .inl (T 1, 1600, .inl (fun jj : Nat => (iF (x 4)) (jj : Int)))), (q 27, .inl (T 0, 2000, .inl (fun jj : Nat => (iF (y 37)) (jj : Int)))), (q 28, .inl (T 0, 2000, .inl (fun jj : Nat => (iF (y 38)) (jj : Int)))), (q 29, .inl (T 1, 2000, .inl (fun jj : Nat => (iF (y 39)) (jj : Int))))]) rfl (by decide) (by decide) (fun _ => rfl) (by decide) (fun r u_ H locs hq17 hP hD hS => ?_)
      rcases hq17 with ⟨rfl, h17⟩ | ⟨rfl, h17⟩
      · refine cx_if_ne (tgt := 25) hx hb d_MO_column_20 rfl (by omega) (fun _ => ?_) (fun h0 => absurd h0 (by decide))
        refine lv_aload_n hx hb d_MO_column_25 rfl (lv_at hl 0 rfl) ?_
        refine va_get (D := D) (ci := 5) (v := .ref (q 23)) (C := R_MO) (T := T_MO) (N := 28) hx hb hT lays_MO hown hK hP 0 rfl rfl 17 (by decide) (hT _ tw_653) (fun _ h9 => h9) rfl d_MO_column_26 ?_
        refine lv_iload_n hx hb d_MO_column_29 rfl (lv_at hl 1 rfl) ?_
        refine cx_iconst hx hb d_MO_column_30 ?_
        refine cx_isub hx hb d_MO_column_31 ?_
        refine lv_iload_n hx hb d_MO_column_32 rfl (lv_at hl 2 rfl) ?_
        refine lv_i2b (v := iI (v)) hx hb d_MO_column_33 (i2b_ok (by omega)) ?_
        refine cx_bast (g := iF (mkF (x 2) (x 18 0))) (g' := iF (fu (mkF (x 2) (x 18 0)) (k - 1) (v))) hx hb hK hP hD hS 3 1 rfl rfl (by omega) (by omega) (by omega) (fun j => iF_put j) d_MO_column_34 (fun H locs hP hD hS => ?_)
        have hP : va_P D vwCl (moW T q n (x 0) (x 1) (fu (mkF (x 2) (x 18 0)) (k - 1) (v)) (cdF (x 2) (x 18 0)) (x 3) (x 4) (x 11 0) (x 12 0) (x 13 0) (x 14 0) (x 15 0) (x 16 0) (x 17 0) (x 18 0) (x 19 0) (x 20 0) (x 21 0) (x 22 0) 0 (y 32 0) (y 33 0) (y 34 0) (y 35 0) (y 36 0) (y 37) (y 38) (y 39)) H := hP
        have hD : va_D A (moW T q n (x 0) (x 1) (fu (mkF (x 2) (x 18 0)) (k - 1) (v)) (cdF (x 2) (x 18 0)) (x 3) (x 4) (x 11 0) (x 12 0) (x 13 0) (x 14 0) (x 15 0) (x 16 0) (x 17 0) (x 18 0) (x 19 0) (x 20 0) (x 21 0) (x 22 0) 0 (y 32 0) (y 33 0) (y 34 0) (y 35 0) (y 36 0) (y 37) (y 38) (y 39)) := hD
        have hF : okF (fu (x 2) (x 18 0 * 80 + k - 1) v) (x 18 0) := okF_fu hF (by omega) (by omega)
        rw [← mkF_fu (by omega), ← cdF_fu (cf := x 2) (z := x 18 0 * 80 + k - 1) (v := v) (cfil := x 18 0) (by omega)] at hP hD
        refine cx_iconst hx hb d_MO_column_35 ?_
        exact hret ((up x 2 (fu (x 2) (x 18 0 * 80 + k - 1) v), up y 31 (cst 0)) : SX × SX) (Or.inr rfl) (⟨pst_of (by unfold colS; rw [if_pos (by omega)]) (show okX (up x 2 (fu (x 2) (x 18 0 * 80 + k - 1) v)) from ⟨hX.1, (show okR (x 11 0) (x 12 0) (x 13 0) (x 14 0) (x 15 0) (x 16 0) (x 17 0) (x 18 0) (x 19 0) (x 20 0) by have h8 := hX.2.1; unfold okR at h8 ⊢; omega), hF⟩), rfl⟩) hP hD hS d_MO_column_36
      · refine cx_if_ne (tgt := 25) hx hb d_MO_column_20 rfl (by omega) (fun h0 => absurd h0 (by decide)) (fun _ => ?_)
        refine cx_iconst hx hb d_MO_column_23 ?_
        exact hret ((x, up y 31 (cst 0)) : SX × SX) (Or.inl rfl) (⟨pst_of (by unfold colS; rw [if_neg (by omega)]) hX, rfl⟩) hP hD hS d_MO_column_24

set_option maxHeartbeats 4000000 in
set_option maxRecDepth 100000 in
theorem c_MO_start (l : Launch) (D : va_G) (T : Nat → ClassId) (sz : Nat) (q : Nat → Nat) (n : Nat) (hn : 400 ≤ n ∧ n ≤ 2000) (x y : SX) (hX : okX x) (z : Int) (hz : -2147483648 ≤ z ∧ z < 2147483648) : MI l y_MO_start (wY y_MO_start b_MO_start 2 (some .boolean)) (rmK 1) D vwCl (tyL T) nwL sz [.ref (q 20), .int (iI (z))] (moW T q n (x 0) (x 1) (mkF (x 2) (x 18 0)) (cdF (x 2) (x 18 0)) (x 3) (x 4) (x 11 0) (x 12 0) (x 13 0) (x 14 0) (x 15 0) (x 16 0) (x 17 0) (x 18 0) (x 19 0) (x 20 0) (x 21 0) (x 22 0) (y 31 0) (y 32 0) (y 33 0) (y 34 0) (y 35 0) (y 36 0) (y 37) (y 38) (y 39)) (fun r (u : SX × SX) => pst (sttS n z x) r u.1 ∧ u.2 = up y 31 (cst 0)) (fun (u : SX × SX) => moX T q n u.1 u.2) := by
  refine cx_inZ (by decide) rfl (Nat.le_of_ble_eq_true rfl) ?_
  intro p e s m below meth cd ls A Q hx hb hml hT hown hret hP hK hD hN hS hA hl
  have hown : s.vm.findClass R_MO = some m.cls := hown
  have hl : lv_has ls 2 [(0, .ref (q 20)), (1, .int (iI (z)))] := hl
  have hC := hX.1
  have hR0 := hX.2.1
  have hF := hX.2.2
  unfold okR at hR0
  refine lv_aload_n hx hb d_MO_start_0 rfl (lv_at hl 0 rfl) ?_
  refine cx_iconst hx hb d_MO_start_1 ?_
  refine va_put (D := D) (ci := 5) (v := .int (iI (0))) (ty := .int) (C := R_MO) (T := T_MO) (N := 28) hx hb hT lays_MO t_MO t_MO_ok n_MO hown hK hP hD hS 0 rfl rfl 0 (by decide) (hT _ tw_636) (fun _ h9 => h9) rfl (by decide +kernel) rfl rfl (Nat.le_of_ble_eq_true rfl) d_MO_start_2 (fun H locs hP hD hS => ?_)
  have hP : va_P D vwCl (moW T q n (x 0) (x 1) (mkF (x 2) (x 18 0)) (cdF (x 2) (x 18 0)) (x 3) (x 4) (x 11 0) (x 12 0) (x 13 0) (x 14 0) (x 15 0) (x 16 0) (x 17 0) (x 18 0) (x 19 0) (x 20 0) (x 21 0) (x 22 0) 0 (y 32 0) (y 33 0) (y 34 0) (y 35 0) (y 36 0) (y 37) (y 38) (y 39)) H := hP
  have hD : va_D A (moW T q n (x 0) (x 1) (mkF (x 2) (x 18 0)) (cdF (x 2) (x 18 0)) (x 3) (x 4) (x 11 0) (x 12 0) (x 13 0) (x 14 0) (x 15 0) (x 16 0) (x 17 0) (x 18 0) (x 19 0) (x 20 0) (x 21 0) (x 22 0) 0 (y 32 0) (y 33 0) (y 34 0) (y 35 0) (y 36 0) (y 37) (y 38) (y 39)) := hD
  refine lv_aload_n hx hb d_MO_start_5 rfl (lv_at hl 0 rfl) ?_
  refine lv_iload_n hx hb d_MO_start_6 rfl (lv_at hl 1 rfl) ?_
  refine cx_cI (ws2 := fun _ => moW T q n (x 0) (x 1) (mkF (x 2) (x 18 0)) (cdF (x 2) (x 18 0)) (x 3) (x 4) (x 11 0) (x 12 0) (x 13 0) (x 14 0) (x 15 0) (x 16 0) (x 17 0) (x 18 0) (x 19 0) (x 20 0) (x 21 0) (x 22 0) 0 (y 32 0) (y 33 0) (y 34 0) (y 35 0) (y 36 0) (y 37) (y 38) (y 39)) (cx_rV (q0 := 0) (ci := 5) (rest := []) (As := [.int (iI (z))]) hx hb hml hown hT hK hN hP hD hl.1 tw_731 k_MO_is (c_MO_is l D T H.size q n hn x (up y 31 (cst 0)) hX z (by omega)) ⟨by decide, by decide⟩ ⟨rfl, rfl⟩ [0, 1, 2, 3, 4, 5, 6, 7, 8, 9] (by decide) rfl rfl rfl rfl rfl (Nat.le_of_ble_eq_true rfl) ⟨Nat.zero_le _, Nat.zero_le _⟩ d_MO_start_7) hP hD hS hA [0, 1, 2, 3, 4, 5, 6, 7, 8, 9] [] [0, 1, 2, 3, 4, 5, 6, 7, 8, 9] rfl (wr := []) rfl (by decide) (by decide) (fun _ => rfl) (by decide) (fun r u_ H locs hq7 hP hD hS => ?_)
  rcases hq7 with ⟨rfl, h7⟩ | ⟨rfl, h7⟩
  · refine cx_if_ne (tgt := 15) hx hb d_MO_start_10 rfl (by omega) (fun _ => ?_) (fun h0 => absurd h0 (by decide))
    refine lv_aload_n hx hb d_MO_start_15 rfl (lv_at hl 0 rfl) ?_
    refine lv_iload_n hx hb d_MO_start_16 rfl (lv_at hl 1 rfl) ?_
    refine va_put (D := D) (ci := 5) (v := .int (iI (z))) (ty := .int) (C := R_MO) (T := T_MO) (N := 28) hx hb hT lays_MO t_MO t_MO_ok n_MO hown hK hP hD hS 0 rfl rfl 4 (by decide) (hT _ tw_640) (fun _ h9 => h9) rfl (by decide +kernel) rfl rfl (Nat.le_of_ble_eq_true rfl) d_MO_start_17 (fun H locs hP hD hS => ?_)
    have hP : va_P D vwCl (moW T q n (x 0) (x 1) (mkF (x 2) (x 18 0)) (cdF (x 2) (x 18 0)) (x 3) (x 4) z (x 12 0) (x 13 0) (x 14 0) (x 15 0) (x 16 0) (x 17 0) (x 18 0) (x 19 0) (x 20 0) (x 21 0) (x 22 0) 0 (y 32 0) (y 33 0) (y 34 0) (y 35 0) (y 36 0) (y 37) (y 38) (y 39)) H := hP
    have hD : va_D A (moW T q n (x 0) (x 1) (mkF (x 2) (x 18 0)) (cdF (x 2) (x 18 0)) (x 3) (x 4) z (x 12 0) (x 13 0) (x 14 0) (x 15 0) (x 16 0) (x 17 0) (x 18 0) (x 19 0) (x 20 0) (x 21 0) (x 22 0) 0 (y 32 0) (y 33 0) (y 34 0) (y 35 0) (y 36 0) (y 37) (y 38) (y 39)) := hD
    refine cx_iconst hx hb d_MO_start_20 ?_
    exact hret ((up x 11 (cst z), up y 31 (cst 0)) : SX × SX) (Or.inr rfl) (⟨pst_of (by unfold sttS; rw [if_pos (by omega)]) (show okX (up x 11 (cst z)) from ⟨hX.1, (show okR z (x 12 0) (x 13 0) (x 14 0) (x 15 0) (x 16 0) (x 17 0) (x 18 0) (x 19 0) (x 20 0) by have h8 := hX.2.1; unfold okR at h8 ⊢; omega), hX.2.2⟩), rfl⟩) hP hD hS d_MO_start_21
  · refine cx_if_ne (tgt := 15) hx hb d_MO_start_10 rfl (by omega) (fun h0 => absurd h0 (by decide)) (fun _ => ?_)
    refine cx_iconst hx hb d_MO_start_13 ?_
    exact hret ((x, up y 31 (cst 0)) : SX × SX) (Or.inl rfl) (⟨pst_of (by unfold sttS; rw [if_neg (by omega)]) hX, rfl⟩) hP hD hS d_MO_start_14

set_option maxHeartbeats 4000000 in
set_option maxRecDepth 100000 in
theorem c_MO_field (l : Launch) (D : va_G) (T : Nat → ClassId) (sz : Nat) (q : Nat → Nat) (n : Nat) (hn : 400 ≤ n ∧ n ≤ 2000) (x y : SX) (hX : okX x) (u most : Int) (hu : -1 ≤ u ∧ u ≤ 16000) (hm : 1 ≤ most ∧ most ≤ 3000) : MI l y_MO_field (wY y_MO_field b_MO_field 5 (some .int)) (rmK 1) D vwCl (tyL T) nwL sz [.ref (q 20), .int (iI (u)), .int (iI (most))] (moW T q n (x 0) (x 1) (mkF (x 2) (x 18 0)) (cdF (x 2) (x 18 0)) (x 3) (x 4) (x 11 0) (x 12 0) (x 13 0) (x 14 0) (x 15 0) (x 16 0) (x 17 0) (x 18 0) (x 19 0) (x 20 0) (x 21 0) (x 22 0) (y 31 0) (y 32 0) (y 33 0) (y 34 0) (y 35 0) (y 36 0) (y 37) (y 38) (y 39)) (fun r (_ : Unit) => r = iI (fld n (x 1) u most 2001 1)) (fun _ => moX T q n x y) := by
  refine cx_inI (by decide) rfl (Nat.le_of_ble_eq_true rfl) ?_
  intro p e s m below meth cd ls A Q hx hb hml hT hown hret hP hK hD hN hS hA hl
  have hown : s.vm.findClass R_MO = some m.cls := hown
  have hl : lv_has ls 5 [(0, .ref (q 20)), (1, .int (iI (u))), (2, .int (iI (most)))] := hl
  have hC := hX.1
  have hR0 := hX.2.1
  have hF := hX.2.2
  unfold okR at hR0
  refine cx_iconst hx hb d_MO_field_0 ?_
  refine lv_istore_n (lv' := [(3, .int (iI (0))), (0, .ref (q 20)), (1, .int (iI (u))), (2, .int (iI (most)))]) hx hb d_MO_field_1 rfl hl (by decide) rfl (fun ls hl => ?_)
  refine lv_iload_n hx hb d_MO_field_2 rfl (lv_at hl 3 rfl) ?_
  refine cx_if_le (tgt := 10) hx hb d_MO_field_3 rfl (by omega) (fun h3 => absurd h3 (by omega)) (fun h3 => ?_)
  refine cx_iconst hx hb d_MO_field_6 ?_
  refine lv_goto (tgt := 11) hx hb d_MO_field_7 rfl ?_
  refine lv_istore (lv' := [(4, .int (iI (1))), (3, .int (iI (0))), (0, .ref (q 20)), (1, .int (iI (u))), (2, .int (iI (most)))]) hx hb d_MO_field_11 hl (by decide) rfl (fun ls hl => ?_)
  have L1 : ∀ (k_ : Nat) (j : Int) (H : Heap) (locs : List Loc) (ls : Array Slot), (0 ≤ j ∧ (0 < j → u < n ∧ j ≤ u + 1) ∧ j + k_ = 2001) → (fld n (x 1) u most 2001 1 = fld n (x 1) u most k_ (j + 1)) → (j < most) → va_P D vwCl (moW T q n (x 0) (x 1) (mkF (x 2) (x 18 0)) (cdF (x 2) (x 18 0)) (x 3) (x 4) (x 11 0) (x 12 0) (x 13 0) (x 14 0) (x 15 0) (x 16 0) (x 17 0) (x 18 0) (x 19 0) (x 20 0) (x 21 0) (x 22 0) (y 31 0) (y 32 0) (y 33 0) (y 34 0) (y 35 0) (y 36 0) (y 37) (y 38) (y 39)) H → va_D A (moW T q n (x 0) (x 1) (mkF (x 2) (x 18 0)) (cdF (x 2) (x 18 0)) (x 3) (x 4) (x 11 0) (x 12 0) (x 13 0) (x 14 0) (x 15 0) (x 16 0) (x 17 0) (x 18 0) (x 19 0) (x 20 0) (x 21 0) (x 22 0) (y 31 0) (y 32 0) (y 33 0) (y 34 0) (y 35 0) (y 36 0) (y 37) (y 38) (y 39)) → va_S A s.heap H locs → lv_has ls 5 [(4, .int (iI (1))), (3, .int (iI (j))), (0, .ref (q 20)), (1, .int (iI (u))), (2, .int (iI (most)))] → W p l e (rmK 1) s m ([.ref (q 20), .int (iI (u)), .int (iI (most))] : List Value).toArray below meth cd H locs 0 0 Q (F0 m 13 ls []) := by
    intro k_
    induction k_ with
    | zero => intro j H locs ls hj hf hjm _ _ _ _; exact absurd hj (by omega)
    | succ k_ ih1 =>
      intro j H locs ls hj hf hjm hP hD hS hl
      refine lv_iload hx hb d_MO_field_13 (lv_at hl 0 rfl) ?_
      refine cx_if_eq (tgt := 61) hx hb d_MO_field_15 rfl (by omega) (fun h0 => absurd h0 (by decide)) (fun _ => ?_)
      refine lv_aload_n hx hb d_MO_field_18 rfl (lv_at hl 2 rfl) ?_
      refine lv_iload_n hx hb d_MO_field_19 rfl (lv_at hl 3 rfl) ?_
      refine lv_iload_n hx hb d_MO_field_20 rfl (lv_at hl 1 rfl) ?_
      refine cx_isub hx hb d_MO_field_21 ?_
      refine cx_cI (ws2 := fun _ => moW T q n (x 0) (x 1) (mkF (x 2) (x 18 0)) (cdF (x 2) (x 18 0)) (x 3) (x 4) (x 11 0) (x 12 0) (x 13 0) (x 14 0) (x 15 0) (x 16 0) (x 17 0) (x 18 0) (x 19 0) (x 20 0) (x 21 0) (x 22 0) (y 31 0) (y 32 0) (y 33 0) (y 34 0) (y 35 0) (y 36 0) (y 37) (y 38) (y 39)) (cx_rV (q0 := 0) (ci := 5) (rest := []) (As := [.int (iI (u - j))]) hx hb hml hown hT hK hN hP hD hl.1 tw_731 k_MO_is (c_MO_is l D T H.size q n hn x y hX (u - j) (by omega)) ⟨by decide, by decide⟩ ⟨rfl, rfl⟩ [0, 1, 2, 3, 4, 5, 6, 7, 8, 9] (by decide) rfl rfl rfl rfl rfl (Nat.le_of_ble_eq_true rfl) ⟨Nat.zero_le _, Nat.zero_le _⟩ d_MO_field_22) hP hD hS hA [0, 1, 2, 3, 4, 5, 6, 7, 8, 9] [] [0, 1, 2, 3, 4, 5, 6, 7, 8, 9] rfl (wr := []) rfl (by decide) (by decide) (fun _ => rfl) (by decide) (fun r u_ H locs hq22 hP hD hS => ?_)
      rcases hq22 with ⟨rfl, h22⟩ | ⟨rfl, h22⟩
      · refine cx_if_ne (tgt := 30) hx hb d_MO_field_25 rfl (by omega) (fun _ => ?_) (fun h0 => absurd h0 (by decide))
        refine lv_aload_n hx hb d_MO_field_30 rfl (lv_at hl 2 rfl) ?_
        refine va_get (D := D) (ci := 5) (v := .ref (q 22)) (C := R_MO) (T := T_MO) (N := 28) hx hb hT lays_MO hown hK hP 0 rfl rfl 3 (by decide) (hT _ tw_639) (fun _ h9 => h9) rfl d_MO_field_31 ?_
        refine lv_iload_n hx hb d_MO_field_34 rfl (lv_at hl 3 rfl) ?_
        refine lv_iload_n hx hb d_MO_field_35 rfl (lv_at hl 1 rfl) ?_
        refine cx_isub hx hb d_MO_field_36 ?_
        refine cx_zald (g := iF (x 1)) hx hb hK hP 2 2 rfl rfl (by omega) (by omega) d_MO_field_37 ?_
        have hm37 := hC.2 (u - j)
        refine cx_if_ne (tgt := 52) hx hb d_MO_field_38 rfl (by omega) (fun h38 => ?_) (fun h38 => ?_)
        · refine cx_iconst hx hb d_MO_field_52 ?_
          refine lv_istore (lv' := [(4, .int (iI (0))), (3, .int (iI (j))), (0, .ref (q 20)), (1, .int (iI (u))), (2, .int (iI (most)))]) hx hb d_MO_field_53 hl (by decide) rfl (fun ls hl => ?_)
          refine cx_iinc (k := 1) (lv' := [(3, .int (iI (j + 1))), (4, .int (iI (0))), (0, .ref (q 20)), (1, .int (iI (u))), (2, .int (iI (most)))]) hx hb d_MO_field_55 hl rfl (by decide) rfl (fun ls hl => ?_)
          refine lv_goto (tgt := 13) hx hb d_MO_field_58 rfl ?_
          refine lv_iload hx hb d_MO_field_13 (lv_at hl 1 rfl) ?_
          refine cx_if_eq (tgt := 61) hx hb d_MO_field_15 rfl (by omega) (fun _ => ?_) (fun h0 => absurd h0 (by decide))
          refine lv_iload_n hx hb d_MO_field_61 rfl (lv_at hl 0 rfl) ?_
          exact hret () (by rw [hf, fldM, if_pos (by omega), if_pos (by omega)]) hP hD hS d_MO_field_62
        · refine lv_iload_n hx hb d_MO_field_41 rfl (lv_at hl 1 rfl) ?_
          refine cx_iconst hx hb d_MO_field_42 ?_
          refine cx_iadd hx hb d_MO_field_43 ?_
          refine lv_iload_n hx hb d_MO_field_44 rfl (lv_at hl 4 rfl) ?_
          refine cx_icmp_ge (tgt := 52) hx hb d_MO_field_45 rfl (by omega) (by omega) (fun h45 => ?_) (fun h45 => ?_)
          · refine cx_iconst hx hb d_MO_field_52 ?_
            refine lv_istore (lv' := [(4, .int (iI (0))), (3, .int (iI (j))), (0, .ref (q 20)), (1, .int (iI (u))), (2, .int (iI (most)))]) hx hb d_MO_field_53 hl (by decide) rfl (fun ls hl => ?_)
            refine cx_iinc (k := 1) (lv' := [(3, .int (iI (j + 1))), (4, .int (iI (0))), (0, .ref (q 20)), (1, .int (iI (u))), (2, .int (iI (most)))]) hx hb d_MO_field_55 hl rfl (by decide) rfl (fun ls hl => ?_)
            refine lv_goto (tgt := 13) hx hb d_MO_field_58 rfl ?_
            refine lv_iload hx hb d_MO_field_13 (lv_at hl 1 rfl) ?_
            refine cx_if_eq (tgt := 61) hx hb d_MO_field_15 rfl (by omega) (fun _ => ?_) (fun h0 => absurd h0 (by decide))
            refine lv_iload_n hx hb d_MO_field_61 rfl (lv_at hl 0 rfl) ?_
            exact hret () (by rw [hf, fldM, if_pos (by omega), if_pos (by omega)]) hP hD hS d_MO_field_62
          · refine cx_iconst hx hb d_MO_field_48 ?_
            refine lv_goto (tgt := 53) hx hb d_MO_field_49 rfl ?_
            refine lv_istore (lv' := [(4, .int (iI (1))), (3, .int (iI (j))), (0, .ref (q 20)), (1, .int (iI (u))), (2, .int (iI (most)))]) hx hb d_MO_field_53 hl (by decide) rfl (fun ls hl => ?_)
            refine cx_iinc (k := 1) (lv' := [(3, .int (iI (j + 1))), (4, .int (iI (1))), (0, .ref (q 20)), (1, .int (iI (u))), (2, .int (iI (most)))]) hx hb d_MO_field_55 hl rfl (by decide) rfl (fun ls hl => ?_)
            refine lv_goto (tgt := 13) hx hb d_MO_field_58 rfl ?_
            exact ih1 (j + 1) _ _ _ (by omega) (by rw [hf, fldM, if_pos (by omega), if_neg (by omega)]) (by omega) hP hD hS (lv_sub hl [1, 0, 2, 3, 4] rfl)
      · refine cx_if_ne (tgt := 30) hx hb d_MO_field_25 rfl (by omega) (fun h0 => absurd h0 (by decide)) (fun _ => ?_)
        refine cx_iconst hx hb d_MO_field_28 ?_
        exact hret () (by rw [hf, fldM, if_neg (by omega)]) hP hD hS d_MO_field_29
  exact L1 2001 0 _ _ _ (by omega) rfl (by omega) hP hD hS (lv_sub hl [0, 1, 2, 3, 4] rfl)
