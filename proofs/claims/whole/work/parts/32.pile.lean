/-! Piles: rows of one width -/
abbrev iF (f : Int → Int) : Int → Int32 := fun z => iI (f z)
abbrev plW (T : Nat → ClassId) (a0 a1 : Nat) (lim wid : Int) (len : Nat) (f : Int → Int) (fil : Int) : va_W := [(a0, .inr (1, [.int (iI lim), .int (iI wid), .ref a1, .int (iI fil)])), (a1, .inl (T 0, len, .inl (fun j : Nat => iF f (j : Int))))]
abbrev psW (T : Nat → ClassId) (a0 a1 : Nat) (lim wid : Int) (len : Nat) (f : Int → Int) (fil : Int) (q : Nat → Nat) (n : Nat) (ch mk : Int → Int) : va_W := [(a0, .inr (1, [.int (iI lim), .int (iI wid), .ref a1, .int (iI fil)])), (a1, .inl (T 0, len, .inl (fun j : Nat => iF f (j : Int)))), (q 1, .inr (3, [.ref (q 2)])), (q 2, .inl (T 0, n, .inl (fun j : Nat => ceF ch mk (j : Int))))]
theorem iF_put {f : Int → Int} {z v : Int} (j : Int) : fu (iF f) z (iI v) j = iF (fu f z v) j := by
  unfold fu iF
  by_cases h : j = z
  · simp [h]
  · simp [h]
/-- a span from lo on, k places, written anew -/
def spa (f : Int → Int) (lo k : Int) (F : Int → Int) : Int → Int := fun j => if lo ≤ j ∧ j < lo + k then F (j - lo) else f j
theorem spa_0 (f : Int → Int) (lo : Int) (F : Int → Int) : spa f lo 0 F = f := by
  funext j
  unfold spa
  rw [if_neg (by omega)]
theorem spa_step {f F : Int → Int} {lo k k2 z v : Int} (hk : 0 ≤ k) (hz : z = lo + k) (hk2 : k2 = k + 1) (h : F k = v) : fu (spa f lo k F) z v = spa f lo k2 F := by
  subst hz hk2
  funext j
  unfold fu spa
  by_cases hj : j = lo + k
  · rw [if_pos hj, if_pos (by omega), hj, show lo + k - lo = k by omega, h]
  · rw [if_neg hj]
    by_cases hq : lo ≤ j ∧ j < lo + k
    · rw [if_pos hq, if_pos (by omega)]
    · rw [if_neg hq, if_neg (by omega)]
theorem spa_out {f F : Int → Int} {lo k j : Int} (h : j < lo ∨ lo + k ≤ j) : spa f lo k F j = f j := by
  unfold spa
  rw [if_neg (by omega)]
theorem spa_in {f F : Int → Int} {lo k j z : Int} (h : 0 ≤ j ∧ j < k) (hz : z = lo + j) : spa f lo k F z = F j := by
  subst hz
  unfold spa
  rw [if_pos (by omega), show lo + j - lo = j by omega]
set_option maxHeartbeats 4000000 in
set_option maxRecDepth 100000 in
theorem c_PI_filled (l : Launch) (D : va_G) (T : Nat → ClassId) (sz : Nat) (a0 a1 : Nat) (lim wid : Int) (len : Nat) (f : Int → Int) (fil : Int) (hp : (0 ≤ lim ∧ lim ≤ 40) ∧ (0 ≤ wid ∧ wid ≤ 132) ∧ len ≤ 10000 ∧ (0 ≤ fil ∧ fil ≤ lim)) : MI l y_PI_filled (wY y_PI_filled b_PI_filled 1 (some .int)) (rmK 0) D vwCl (tyL T) nwL sz [.ref (a0)] (plW T a0 a1 lim wid len f fil) (fun r (_ : Unit) => r = iI fil) (fun _ => plW T a0 a1 lim wid len f fil) := by
  refine cx_inI (by decide) rfl (Nat.le_of_ble_eq_true rfl) ?_
  intro p e s m below meth cd ls A Q hx hb hml hT hown hret hP hK hD hN hS hA hl
  have hown : s.vm.findClass R_PI = some m.cls := hown
  have hl : lv_has ls 1 [(0, .ref (a0))] := hl
  refine lv_aload_n hx hb d_PI_filled_0 rfl (lv_at hl 0 rfl) ?_
  refine va_get (D := D) (ci := 1) (v := .int (iI (fil))) (C := R_PI) (T := T_PI) (N := 4) hx hb hT lays_PI hown hK hP 0 rfl rfl 3 (by decide) (hT _ tw_45) (fun _ h9 => h9) rfl d_PI_filled_1 ?_
  exact hret () rfl hP hD hS d_PI_filled_4

set_option maxHeartbeats 4000000 in
set_option maxRecDepth 100000 in
theorem c_PI_isFull (l : Launch) (D : va_G) (T : Nat → ClassId) (sz : Nat) (a0 a1 : Nat) (lim wid : Int) (len : Nat) (f : Int → Int) (fil : Int) (hp : (0 ≤ lim ∧ lim ≤ 40) ∧ (0 ≤ wid ∧ wid ≤ 132) ∧ len ≤ 10000 ∧ (0 ≤ fil ∧ fil ≤ lim)) : MI l y_PI_isFull (wY y_PI_isFull b_PI_isFull 1 (some .boolean)) (rmK 0) D vwCl (tyL T) nwL sz [.ref (a0)] (plW T a0 a1 lim wid len f fil) (fun r (_ : Unit) => (r = iI 1 ∧ (lim ≤ fil)) ∨ (r = iI 0 ∧ (fil < lim))) (fun _ => plW T a0 a1 lim wid len f fil) := by
  refine cx_inZ (by decide) rfl (Nat.le_of_ble_eq_true rfl) ?_
  intro p e s m below meth cd ls A Q hx hb hml hT hown hret hP hK hD hN hS hA hl
  have hown : s.vm.findClass R_PI = some m.cls := hown
  have hl : lv_has ls 1 [(0, .ref (a0))] := hl
  refine lv_aload_n hx hb d_PI_isFull_0 rfl (lv_at hl 0 rfl) ?_
  refine va_get (D := D) (ci := 1) (v := .int (iI (fil))) (C := R_PI) (T := T_PI) (N := 4) hx hb hT lays_PI hown hK hP 0 rfl rfl 3 (by decide) (hT _ tw_45) (fun _ h9 => h9) rfl d_PI_isFull_1 ?_
  refine lv_aload_n hx hb d_PI_isFull_4 rfl (lv_at hl 0 rfl) ?_
  refine va_get (D := D) (ci := 1) (v := .int (iI (lim))) (C := R_PI) (T := T_PI) (N := 4) hx hb hT lays_PI hown hK hP 0 rfl rfl 0 (by decide) (hT _ tw_42) (fun _ h9 => h9) rfl d_PI_isFull_5 ?_
  refine cx_icmp_lt (tgt := 15) hx hb d_PI_isFull_8 rfl (by omega) (by omega) (fun h8 => ?_) (fun h8 => ?_)
  · refine cx_iconst hx hb d_PI_isFull_15 ?_
    exact hret () (Or.inl rfl) (Or.inr ⟨rfl, by omega⟩) hP hD hS d_PI_isFull_16
  · refine cx_iconst hx hb d_PI_isFull_11 ?_
    refine lv_goto (tgt := 16) hx hb d_PI_isFull_12 rfl ?_
    exact hret () (Or.inr rfl) (Or.inl ⟨rfl, by omega⟩) hP hD hS d_PI_isFull_16

set_option maxHeartbeats 4000000 in
set_option maxRecDepth 100000 in
theorem c_PI_holds (l : Launch) (D : va_G) (T : Nat → ClassId) (sz : Nat) (a0 a1 : Nat) (lim wid : Int) (len : Nat) (f : Int → Int) (fil : Int) (hp : (0 ≤ lim ∧ lim ≤ 40) ∧ (0 ≤ wid ∧ wid ≤ 132) ∧ len ≤ 10000 ∧ (0 ≤ fil ∧ fil ≤ lim)) (r c : Int) (hr : -2147483648 ≤ r ∧ r < 2147483648) (hc : -2147483648 ≤ c ∧ c < 2147483648) : MI l y_PI_holds (wY y_PI_holds b_PI_holds 3 (some .boolean)) (rmK 0) D vwCl (tyL T) nwL sz [.ref (a0), .int (iI (r)), .int (iI (c))] (plW T a0 a1 lim wid len f fil) (fun v (_ : Unit) => (v = iI 1 ∧ ((0 ≤ r ∧ r < fil) ∧ (1 ≤ c ∧ c ≤ wid))) ∨ (v = iI 0 ∧ (¬ ((0 ≤ r ∧ r < fil) ∧ (1 ≤ c ∧ c ≤ wid))))) (fun _ => plW T a0 a1 lim wid len f fil) := by
  refine cx_inZ (by decide) rfl (Nat.le_of_ble_eq_true rfl) ?_
  intro p e s m below meth cd ls A Q hx hb hml hT hown hret hP hK hD hN hS hA hl
  have hown : s.vm.findClass R_PI = some m.cls := hown
  have hl : lv_has ls 3 [(0, .ref (a0)), (1, .int (iI (r))), (2, .int (iI (c)))] := hl
  refine lv_iload_n hx hb d_PI_holds_0 rfl (lv_at hl 1 rfl) ?_
  refine cx_if_lt (tgt := 29) hx hb d_PI_holds_1 rfl (by omega) (fun h1 => ?_) (fun h1 => ?_)
  · refine cx_iconst hx hb d_PI_holds_29 ?_
    exact hret () (Or.inl rfl) (Or.inr ⟨rfl, by omega⟩) hP hD hS d_PI_holds_30
  · refine lv_iload_n hx hb d_PI_holds_4 rfl (lv_at hl 1 rfl) ?_
    refine lv_aload_n hx hb d_PI_holds_5 rfl (lv_at hl 0 rfl) ?_
    refine va_get (D := D) (ci := 1) (v := .int (iI (fil))) (C := R_PI) (T := T_PI) (N := 4) hx hb hT lays_PI hown hK hP 0 rfl rfl 3 (by decide) (hT _ tw_45) (fun _ h9 => h9) rfl d_PI_holds_6 ?_
    refine cx_icmp_ge (tgt := 29) hx hb d_PI_holds_9 rfl (by omega) (by omega) (fun h9 => ?_) (fun h9 => ?_)
    · refine cx_iconst hx hb d_PI_holds_29 ?_
      exact hret () (Or.inl rfl) (Or.inr ⟨rfl, by omega⟩) hP hD hS d_PI_holds_30
    · refine lv_iload_n hx hb d_PI_holds_12 rfl (lv_at hl 2 rfl) ?_
      refine cx_iconst hx hb d_PI_holds_13 ?_
      refine cx_icmp_lt (tgt := 29) hx hb d_PI_holds_14 rfl (by omega) (by omega) (fun h14 => ?_) (fun h14 => ?_)
      · refine cx_iconst hx hb d_PI_holds_29 ?_
        exact hret () (Or.inl rfl) (Or.inr ⟨rfl, by omega⟩) hP hD hS d_PI_holds_30
      · refine lv_iload_n hx hb d_PI_holds_17 rfl (lv_at hl 2 rfl) ?_
        refine lv_aload_n hx hb d_PI_holds_18 rfl (lv_at hl 0 rfl) ?_
        refine va_get (D := D) (ci := 1) (v := .int (iI (wid))) (C := R_PI) (T := T_PI) (N := 4) hx hb hT lays_PI hown hK hP 0 rfl rfl 1 (by decide) (hT _ tw_43) (fun _ h9 => h9) rfl d_PI_holds_19 ?_
        refine cx_icmp_gt (tgt := 29) hx hb d_PI_holds_22 rfl (by omega) (by omega) (fun h22 => ?_) (fun h22 => ?_)
        · refine cx_iconst hx hb d_PI_holds_29 ?_
          exact hret () (Or.inl rfl) (Or.inr ⟨rfl, by omega⟩) hP hD hS d_PI_holds_30
        · refine cx_iconst hx hb d_PI_holds_25 ?_
          refine lv_goto (tgt := 30) hx hb d_PI_holds_26 rfl ?_
          exact hret () (Or.inr rfl) (Or.inl ⟨rfl, by omega⟩) hP hD hS d_PI_holds_30

set_option maxHeartbeats 4000000 in
set_option maxRecDepth 100000 in
theorem c_PI_character (l : Launch) (D : va_G) (T : Nat → ClassId) (sz : Nat) (a0 a1 : Nat) (lim wid : Int) (len : Nat) (f : Int → Int) (fil : Int) (hp : (0 ≤ lim ∧ lim ≤ 40) ∧ (0 ≤ wid ∧ wid ≤ 132) ∧ len ≤ 10000 ∧ (0 ≤ fil ∧ fil ≤ lim)) (r c : Int) (hi : 0 ≤ r * wid + c - 1 ∧ r * wid + c - 1 < len) : MI l y_PI_character (wY y_PI_character b_PI_character 3 (some .int)) (rmK 0) D vwCl (tyL T) nwL sz [.ref (a0), .int (iI (r)), .int (iI (c))] (plW T a0 a1 lim wid len f fil) (fun v (_ : Unit) => v = iI (f (r * wid + c - 1))) (fun _ => plW T a0 a1 lim wid len f fil) := by
  refine cx_inI (by decide) rfl (Nat.le_of_ble_eq_true rfl) ?_
  intro p e s m below meth cd ls A Q hx hb hml hT hown hret hP hK hD hN hS hA hl
  have hown : s.vm.findClass R_PI = some m.cls := hown
  have hl : lv_has ls 3 [(0, .ref (a0)), (1, .int (iI (r))), (2, .int (iI (c)))] := hl
  refine lv_aload_n hx hb d_PI_character_0 rfl (lv_at hl 0 rfl) ?_
  refine va_get (D := D) (ci := 1) (v := .ref (a1)) (C := R_PI) (T := T_PI) (N := 4) hx hb hT lays_PI hown hK hP 0 rfl rfl 2 (by decide) (hT _ tw_44) (fun _ h9 => h9) rfl d_PI_character_1 ?_
  refine lv_iload_n hx hb d_PI_character_4 rfl (lv_at hl 1 rfl) ?_
  refine lv_aload_n hx hb d_PI_character_5 rfl (lv_at hl 0 rfl) ?_
  refine va_get (D := D) (ci := 1) (v := .int (iI (wid))) (C := R_PI) (T := T_PI) (N := 4) hx hb hT lays_PI hown hK hP 0 rfl rfl 1 (by decide) (hT _ tw_43) (fun _ h9 => h9) rfl d_PI_character_6 ?_
  refine cx_imul hx hb d_PI_character_9 ?_
  refine lv_iload_n hx hb d_PI_character_10 rfl (lv_at hl 2 rfl) ?_
  refine cx_iadd hx hb d_PI_character_11 ?_
  refine cx_iconst hx hb d_PI_character_12 ?_
  refine cx_isub hx hb d_PI_character_13 ?_
  refine cx_iald (g := iF f) hx hb hK hP 1 0 rfl rfl (by omega) (by omega) d_PI_character_14 ?_
  exact hret () rfl hP hD hS d_PI_character_15

set_option maxHeartbeats 4000000 in
set_option maxRecDepth 100000 in
theorem c_PI_write (l : Launch) (D : va_G) (T : Nat → ClassId) (sz : Nat) (a0 a1 : Nat) (lim wid : Int) (len : Nat) (f : Int → Int) (fil : Int) (hp : (0 ≤ lim ∧ lim ≤ 40) ∧ (0 ≤ wid ∧ wid ≤ 132) ∧ len ≤ 10000 ∧ (0 ≤ fil ∧ fil ≤ lim)) (c v : Int) (hi : 0 ≤ fil * wid + c - 1 ∧ fil * wid + c - 1 < len) : MV l y_PI_write (wY y_PI_write b_PI_write 3 none) (rmK 0) D vwCl (tyL T) nwL sz [.ref (a0), .int (iI (c)), .int (iI (v))] (plW T a0 a1 lim wid len f fil) (fun (_ : Unit) => True) (fun _ => plW T a0 a1 lim wid len (fu f (fil * wid + c - 1) v) fil) := by
  refine cx_inV (by decide) rfl (Nat.le_of_ble_eq_true rfl) ?_
  intro p e s m below meth cd ls A Q hx hb hml hT hown hret hP hK hD hN hS hA hl
  have hown : s.vm.findClass R_PI = some m.cls := hown
  have hl : lv_has ls 3 [(0, .ref (a0)), (1, .int (iI (c))), (2, .int (iI (v)))] := hl
  refine lv_aload_n hx hb d_PI_write_0 rfl (lv_at hl 0 rfl) ?_
  refine va_get (D := D) (ci := 1) (v := .ref (a1)) (C := R_PI) (T := T_PI) (N := 4) hx hb hT lays_PI hown hK hP 0 rfl rfl 2 (by decide) (hT _ tw_44) (fun _ h9 => h9) rfl d_PI_write_1 ?_
  refine lv_aload_n hx hb d_PI_write_4 rfl (lv_at hl 0 rfl) ?_
  refine va_get (D := D) (ci := 1) (v := .int (iI (fil))) (C := R_PI) (T := T_PI) (N := 4) hx hb hT lays_PI hown hK hP 0 rfl rfl 3 (by decide) (hT _ tw_45) (fun _ h9 => h9) rfl d_PI_write_5 ?_
  refine lv_aload_n hx hb d_PI_write_8 rfl (lv_at hl 0 rfl) ?_
  refine va_get (D := D) (ci := 1) (v := .int (iI (wid))) (C := R_PI) (T := T_PI) (N := 4) hx hb hT lays_PI hown hK hP 0 rfl rfl 1 (by decide) (hT _ tw_43) (fun _ h9 => h9) rfl d_PI_write_9 ?_
  refine cx_imul hx hb d_PI_write_12 ?_
  refine lv_iload_n hx hb d_PI_write_13 rfl (lv_at hl 1 rfl) ?_
  refine cx_iadd hx hb d_PI_write_14 ?_
  refine cx_iconst hx hb d_PI_write_15 ?_
  refine cx_isub hx hb d_PI_write_16 ?_
  refine lv_iload_n hx hb d_PI_write_17 rfl (lv_at hl 2 rfl) ?_
  refine cx_iast (g := iF f) (g' := iF (fu f (fil * wid + c - 1) v)) hx hb hK hP hD hS 1 0 rfl rfl (by omega) (by omega) (fun j => iF_put j) d_PI_write_18 (fun H locs hP hD hS => ?_)
  have hP : va_P D vwCl (plW T a0 a1 lim wid len (fu f (fil * wid + c - 1) v) fil) H := hP
  have hD : va_D A (plW T a0 a1 lim wid len (fu f (fil * wid + c - 1) v) fil) := hD
  exact hret () trivial hP hD hS d_PI_write_19

set_option maxHeartbeats 4000000 in
set_option maxRecDepth 100000 in
theorem c_PI_close (l : Launch) (D : va_G) (T : Nat → ClassId) (sz : Nat) (a0 a1 : Nat) (lim wid : Int) (len : Nat) (f : Int → Int) (fil : Int) (hp : (0 ≤ lim ∧ lim ≤ 40) ∧ (0 ≤ wid ∧ wid ≤ 132) ∧ len ≤ 10000 ∧ (0 ≤ fil ∧ fil ≤ lim)) : MV l y_PI_close (wY y_PI_close b_PI_close 1 none) (rmK 0) D vwCl (tyL T) nwL sz [.ref (a0)] (plW T a0 a1 lim wid len f fil) (fun (_ : Unit) => True) (fun _ => plW T a0 a1 lim wid len f (fil + 1)) := by
  refine cx_inV (by decide) rfl (Nat.le_of_ble_eq_true rfl) ?_
  intro p e s m below meth cd ls A Q hx hb hml hT hown hret hP hK hD hN hS hA hl
  have hown : s.vm.findClass R_PI = some m.cls := hown
  have hl : lv_has ls 1 [(0, .ref (a0))] := hl
  refine lv_aload_n hx hb d_PI_close_0 rfl (lv_at hl 0 rfl) ?_
  refine lv_dup hx hb d_PI_close_1 rfl ?_
  refine va_get (D := D) (ci := 1) (v := .int (iI (fil))) (C := R_PI) (T := T_PI) (N := 4) hx hb hT lays_PI hown hK hP 0 rfl rfl 3 (by decide) (hT _ tw_45) (fun _ h9 => h9) rfl d_PI_close_2 ?_
  refine cx_iconst hx hb d_PI_close_5 ?_
  refine cx_iadd hx hb d_PI_close_6 ?_
  refine va_put (D := D) (ci := 1) (v := .int (iI (fil + 1))) (ty := .int) (C := R_PI) (T := T_PI) (N := 4) hx hb hT lays_PI t_PI t_PI_ok n_PI hown hK hP hD hS 0 rfl rfl 3 (by decide) (hT _ tw_45) (fun _ h9 => h9) rfl (by decide +kernel) rfl rfl (Nat.le_of_ble_eq_true rfl) d_PI_close_7 (fun H locs hP hD hS => ?_)
  have hP : va_P D vwCl (plW T a0 a1 lim wid len f (fil + 1)) H := hP
  have hD : va_D A (plW T a0 a1 lim wid len f (fil + 1)) := hD
  exact hret () trivial hP hD hS d_PI_close_10

set_option maxHeartbeats 4000000 in
set_option maxRecDepth 100000 in
theorem c_PI_copy (l : Launch) (D : va_G) (T : Nat → ClassId) (sz : Nat) (a0 a1 : Nat) (lim wid : Int) (len : Nat) (f : Int → Int) (fil : Int) (hp : (0 ≤ lim ∧ lim ≤ 40) ∧ (0 ≤ wid ∧ wid ≤ 132) ∧ len ≤ 10000 ∧ (0 ≤ fil ∧ fil ≤ lim)) (q : Nat → Nat) (n : Nat) (ch mk : Int → Int) (hn : 400 ≤ n ∧ n ≤ 2000) (hC : okC ch mk) (x : Int) (hi : 0 ≤ fil * wid ∧ fil * wid + wid ≤ len) (hx1 : 0 ≤ x ∧ x + wid ≤ n) (hfl : fil < lim) : MV l y_PI_copy (wY y_PI_copy b_PI_copy 4 none) (rmK 1) D vwCl (tyL T) nwL sz [.ref (a0), .ref (q 1), .int (iI (x))] (psW T a0 a1 lim wid len f fil q n ch mk) (fun (_ : Unit) => True) (fun _ => psW T a0 a1 lim wid len (spa f (fil * wid) (wid) (fun k => ch (x + k))) (fil + 1) q n ch mk) := by
  refine cx_inV (by decide) rfl (Nat.le_of_ble_eq_true rfl) ?_
  intro p e s m below meth cd ls A Q hx hb hml hT hown hret hP hK hD hN hS hA hl
  have hown : s.vm.findClass R_PI = some m.cls := hown
  have hl : lv_has ls 4 [(0, .ref (a0)), (1, .ref (q 1)), (2, .int (iI (x)))] := hl
  refine cx_iconst hx hb d_PI_copy_0 ?_
  refine lv_istore_n (lv' := [(3, .int (iI (1))), (0, .ref (a0)), (1, .ref (q 1)), (2, .int (iI (x)))]) hx hb d_PI_copy_1 rfl hl (by decide) rfl (fun ls hl => ?_)
  have L1 : ∀ (k_ : Nat) (j : Int) (H : Heap) (locs : List Loc) (ls : Array Slot), (1 ≤ j ∧ j ≤ wid + 1 ∧ wid + 1 - j < k_) → va_P D vwCl (psW T a0 a1 lim wid len (spa f (fil * wid) (j - 1) (fun k => ch (x + k))) fil q n ch mk) H → va_D A (psW T a0 a1 lim wid len (spa f (fil * wid) (j - 1) (fun k => ch (x + k))) fil q n ch mk) → va_S A s.heap H locs → lv_has ls 4 [(3, .int (iI (j))), (0, .ref (a0)), (1, .ref (q 1)), (2, .int (iI (x)))] → W p l e (rmK 1) s m ([.ref (a0), .ref (q 1), .int (iI (x))] : List Value).toArray below meth cd H locs 0 0 Q (F0 m 2 ls []) := by
    intro k_
    induction k_ with
    | zero => intro j H locs ls hj _ _ _ _; exact absurd hj (by omega)
    | succ k_ ih1 =>
      intro j H locs ls hj hP hD hS hl
      refine lv_iload_n hx hb d_PI_copy_2 rfl (lv_at hl 0 rfl) ?_
      refine lv_aload_n hx hb d_PI_copy_3 rfl (lv_at hl 1 rfl) ?_
      refine va_get (D := D) (ci := 1) (v := .int (iI (wid))) (C := R_PI) (T := T_PI) (N := 4) hx hb hT lays_PI hown hK hP 0 rfl rfl 1 (by decide) (hT _ tw_43) (fun _ h9 => h9) rfl d_PI_copy_4 ?_
      refine cx_icmp_gt (tgt := 30) hx hb d_PI_copy_7 rfl (by omega) (by omega) (fun h7 => ?_) (fun h7 => ?_)
      · have e9 : j - 1 = wid := by omega
        rw [e9] at hP hD
        refine lv_aload_n hx hb d_PI_copy_30 rfl (lv_at hl 1 rfl) ?_
        refine cx_cV (ws2 := fun _ => psW T a0 a1 lim wid len (spa f (fil * wid) (wid) (fun k => ch (x + k))) (fil + 1) q n ch mk) (cx_rV (q0 := 0) (ci := 1) (rest := []) (As := []) hx hb hml hown hT hK hN hP hD hl.1 tw_535 k_PI_close (c_PI_close l D T H.size a0 a1 lim wid len (spa f (fil * wid) (wid) (fun k => ch (x + k))) fil (by omega) ) ⟨by decide, by decide⟩ ⟨rfl, rfl⟩ [0, 1] (by decide) rfl rfl rfl rfl rfl (Nat.le_of_ble_eq_true rfl) ⟨Nat.zero_le _, Nat.zero_le _⟩ d_PI_copy_31) hP hD hS hA [0, 1] [2, 3] [2, 3, 0, 1] rfl (wr := [(q 1, .inr (3, [.ref (q 2)])), (q 2, .inl (T 0, n, .inl (fun jj : Nat => (ceF ch mk) (jj : Int))))]) rfl (by decide) (by decide) (fun _ => rfl) (by decide) (fun u_ H locs hq31 hP hD hS => ?_)
        exact hret () trivial hP hD hS d_PI_copy_34
      · refine lv_aload_n hx hb d_PI_copy_10 rfl (lv_at hl 1 rfl) ?_
        refine lv_iload_n hx hb d_PI_copy_11 rfl (lv_at hl 0 rfl) ?_
        refine lv_aload_n hx hb d_PI_copy_12 rfl (lv_at hl 2 rfl) ?_
        refine lv_iload_n hx hb d_PI_copy_13 rfl (lv_at hl 3 rfl) ?_
        refine lv_iload_n hx hb d_PI_copy_14 rfl (lv_at hl 0 rfl) ?_
        refine cx_iadd hx hb d_PI_copy_15 ?_
        refine cx_iconst hx hb d_PI_copy_16 ?_
        refine cx_isub hx hb d_PI_copy_17 ?_
        refine cx_cI (ws2 := fun _ => psW T a0 a1 lim wid len (spa f (fil * wid) (j - 1) (fun k => ch (x + k))) fil q n ch mk) (cx_rV (q0 := 2) (ci := 3) (rest := [.int (iI (j)), .ref (a0)]) (As := [.int (iI ((x + j) - 1))]) hx hb hml hown hT hK hN hP hD hl.1 tw_533 k_ST_character (c_ST_character l D T H.size q n ch mk hn hC ((x + j) - 1) (by omega)) ⟨by decide, by decide⟩ ⟨rfl, rfl⟩ [2, 3] (by decide) rfl rfl rfl rfl rfl (Nat.le_of_ble_eq_true rfl) ⟨Nat.zero_le _, Nat.zero_le _⟩ d_PI_copy_18) hP hD hS hA [2, 3] [0, 1] [0, 1, 2, 3] rfl (wr := [(a0, .inr (1, [.int (iI (lim)), .int (iI (wid)), .ref (a1), .int (iI (fil))])), (a1, .inl (T 0, len, .inl (fun jj : Nat => (iF (spa f (fil * wid) (j - 1) (fun k => ch (x + k)))) (jj : Int))))]) rfl (by decide) (by decide) (fun _ => rfl) (by decide) (fun r u_ H locs hq18 hP hD hS => ?_)
        subst hq18
        refine cx_cV (ws2 := fun _ => psW T a0 a1 lim wid len (fu (spa f (fil * wid) (j - 1) (fun k => ch (x + k))) (fil * wid + j - 1) (ch ((x + j) - 1))) fil q n ch mk) (cx_rV (q0 := 0) (ci := 1) (rest := []) (As := [.int (iI (j)), .int (iI (ch ((x + j) - 1)))]) hx hb hml hown hT hK hN hP hD hl.1 tw_534 k_PI_write (c_PI_write l D T H.size a0 a1 lim wid len (spa f (fil * wid) (j - 1) (fun k => ch (x + k))) fil (by omega) j (ch ((x + j) - 1)) (by omega)) ⟨by decide, by decide⟩ ⟨rfl, rfl⟩ [0, 1] (by decide) rfl rfl rfl rfl rfl (Nat.le_of_ble_eq_true rfl) ⟨Nat.zero_le _, Nat.zero_le _⟩ d_PI_copy_21) hP hD hS hA [0, 1] [2, 3] [2, 3, 0, 1] rfl (wr := [(q 1, .inr (3, [.ref (q 2)])), (q 2, .inl (T 0, n, .inl (fun jj : Nat => (ceF ch mk) (jj : Int))))]) rfl (by decide) (by decide) (fun _ => rfl) (by decide) (fun u_ H locs hq21 hP hD hS => ?_)
        refine cx_iinc (k := 0) (lv' := [(3, .int (iI (j + 1))), (0, .ref (a0)), (1, .ref (q 1)), (2, .int (iI (x)))]) hx hb d_PI_copy_24 hl rfl (by decide) rfl (fun ls hl => ?_)
        refine lv_goto (tgt := 2) hx hb d_PI_copy_27 rfl ?_
        rw [spa_step (F := fun k => ch (x + k)) (k2 := j + 1 - 1) (by omega) (by omega) (by omega) (by show ch (x + (j - 1)) = _; congr 1; omega)] at hP hD
        exact ih1 (j + 1) _ _ _ (by omega) hP hD hS (lv_sub hl [0, 1, 2, 3] rfl)
  rw [← spa_0 f (fil * wid) (fun k => ch (x + k))] at hP hD
  rw [show (0 : Int) = 1 - 1 from rfl] at hP hD
  exact L1 200 1 _ _ _ (by omega) hP hD hS (lv_sub hl [0, 1, 2, 3] rfl)
