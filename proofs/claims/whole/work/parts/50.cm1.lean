/-! CharMachine: 21 steps so far, 22 the latest answer -/
abbrev cmW (T : Nat → ClassId) (q : Nat → Nat) (n : Nat) (d ch mk cf lf pf : Int → Int) (i a b cmp ov last rd cfil lfil pfil steps ans : Int) : va_W := (q 0, .inr (4, [.ref (q 1), .ref (q 3), .ref (q 5), .ref (q 7), .ref (q 9), .int (iI steps), .int (iI ans)])) :: prW T q n d ch mk cf lf pf i a b cmp ov last rd cfil lfil pfil
abbrev cmX (T : Nat → ClassId) (q : Nat → Nat) (n : Nat) (d : Int → Int) (x : SX) : va_W := cmW T q n d (x 0) (x 1) (x 2) (x 3) (x 4) (x 11 0) (x 12 0) (x 13 0) (x 14 0) (x 15 0) (x 16 0) (x 17 0) (x 18 0) (x 19 0) (x 20 0) (x 21 0) (x 22 0)
theorem okF_fu {cf : Int → Int} {cfil z v : Int} (h : okF cf cfil) (hv : 0 ≤ v ∧ v < 64) (hz : z < 80 * (cfil + 1)) : okF (fu cf z v) cfil := ⟨fun j => by
  unfold fu
  split
  · exact hv
  · exact h.1 j, fun j hj => by
  unfold fu
  rw [if_neg (by omega)]
  exact h.2 j hj⟩
def setS (n z v k : Int) (x : SX) : Int × SX := if (0 ≤ z ∧ z < n) ∧ (0 ≤ v ∧ v < 64) then (1, up (up x 0 (fu (x 0) z v)) 1 (fu (x 1) z k)) else (0, x)
def colS (k v : Int) (x : SX) : Int × SX := if (1 ≤ k ∧ k ≤ 80) ∧ (0 ≤ v ∧ v < 64) then (1, up x 2 (fu (x 2) (x 18 0 * 80 + k - 1) v)) else (0, x)
def sttS (n z : Int) (x : SX) : Int × SX := if 0 ≤ z ∧ z < n then (1, up x 11 (cst z)) else (0, x)
def stvS (n v : Int) (x : SX) : Int := if v = 0 then x 11 0 else if v = 1 then x 12 0 else if v = 2 then x 13 0 else if v = 3 then x 14 0 else if v = 4 then (if x 15 0 = 0 then 0 else 1) else if v = 5 then (if x 16 0 = 0 then 0 else 1) else if v = 6 then x 21 0 else if v = 7 then x 22 0 else if v = 8 then n else -1
def cntS (n : Nat) (v : Int) (x : SX) : Int := if v = 0 then x 18 0 - x 17 0 else if v = 1 then x 19 0 else if v = 2 then x 20 0 else if v = 3 then cnt (x 1) n else -1
theorem sw_state_52 : ∀ k : Fin 64, ((k.val : Int) = 0) → tsw 133 0 8 #[51, 59, 67, 75, 83, 99, 115, 120, 125] (k.val : Int) = 51 := by decide +kernel
theorem sw_state_60 : ∀ k : Fin 64, ((k.val : Int) = 1) → tsw 133 0 8 #[51, 59, 67, 75, 83, 99, 115, 120, 125] (k.val : Int) = 59 := by decide +kernel
theorem sw_state_68 : ∀ k : Fin 64, ((k.val : Int) = 2) → tsw 133 0 8 #[51, 59, 67, 75, 83, 99, 115, 120, 125] (k.val : Int) = 67 := by decide +kernel
theorem sw_state_76 : ∀ k : Fin 64, ((k.val : Int) = 3) → tsw 133 0 8 #[51, 59, 67, 75, 83, 99, 115, 120, 125] (k.val : Int) = 75 := by decide +kernel
theorem sw_state_84 : ∀ k : Fin 64, ((k.val : Int) = 4) → tsw 133 0 8 #[51, 59, 67, 75, 83, 99, 115, 120, 125] (k.val : Int) = 83 := by decide +kernel
theorem sw_state_100 : ∀ k : Fin 64, ((k.val : Int) = 5) → tsw 133 0 8 #[51, 59, 67, 75, 83, 99, 115, 120, 125] (k.val : Int) = 99 := by decide +kernel
theorem sw_state_116 : ∀ k : Fin 64, ((k.val : Int) = 6) → tsw 133 0 8 #[51, 59, 67, 75, 83, 99, 115, 120, 125] (k.val : Int) = 115 := by decide +kernel
theorem sw_state_121 : ∀ k : Fin 64, ((k.val : Int) = 7) → tsw 133 0 8 #[51, 59, 67, 75, 83, 99, 115, 120, 125] (k.val : Int) = 120 := by decide +kernel
theorem sw_state_126 : ∀ k : Fin 64, ((k.val : Int) = 8) → tsw 133 0 8 #[51, 59, 67, 75, 83, 99, 115, 120, 125] (k.val : Int) = 125 := by decide +kernel
theorem sw_state_d : ∀ k : Fin 64, ¬ ((k.val : Int) = 0 ∨ (k.val : Int) = 1 ∨ (k.val : Int) = 2 ∨ (k.val : Int) = 3 ∨ (k.val : Int) = 4 ∨ (k.val : Int) = 5 ∨ (k.val : Int) = 6 ∨ (k.val : Int) = 7 ∨ (k.val : Int) = 8) → tsw 133 0 8 #[51, 59, 67, 75, 83, 99, 115, 120, 125] (k.val : Int) = 133 := by decide +kernel
theorem sw_count_32 : ∀ k : Fin 64, ((k.val : Int) = 0) → tsw 63 0 3 #[31, 39, 47, 55] (k.val : Int) = 31 := by decide +kernel
theorem sw_count_40 : ∀ k : Fin 64, ((k.val : Int) = 1) → tsw 63 0 3 #[31, 39, 47, 55] (k.val : Int) = 39 := by decide +kernel
theorem sw_count_48 : ∀ k : Fin 64, ((k.val : Int) = 2) → tsw 63 0 3 #[31, 39, 47, 55] (k.val : Int) = 47 := by decide +kernel
theorem sw_count_56 : ∀ k : Fin 64, ((k.val : Int) = 3) → tsw 63 0 3 #[31, 39, 47, 55] (k.val : Int) = 55 := by decide +kernel
theorem sw_count_d : ∀ k : Fin 64, ¬ ((k.val : Int) = 0 ∨ (k.val : Int) = 1 ∨ (k.val : Int) = 2 ∨ (k.val : Int) = 3) → tsw 63 0 3 #[31, 39, 47, 55] (k.val : Int) = 63 := by decide +kernel
set_option maxHeartbeats 4000000 in
set_option maxRecDepth 100000 in
theorem c_CM_set (l : Launch) (D : va_G) (T : Nat → ClassId) (sz : Nat) (q : Nat → Nat) (n : Nat) (hn : 400 ≤ n ∧ n ≤ 2000) (d : Int → Int) (x : SX) (hX : okX x) (z : Int) (hz : -2147483648 ≤ z ∧ z < 2147483648) (v : Int) (hv : -2147483648 ≤ v ∧ v < 2147483648) (k : Int) (hk : k = 0 ∨ k = 1) : MI l y_CM_set (wY y_CM_set b_CM_set 4 (some .boolean)) (rmK 1) D vwCl (tyL T) nwL sz [.ref (q 0), .int (iI (z)), .int (iI (v)), .int (iI (k))] (cmW T q n d (x 0) (x 1) (x 2) (x 3) (x 4) (x 11 0) (x 12 0) (x 13 0) (x 14 0) (x 15 0) (x 16 0) (x 17 0) (x 18 0) (x 19 0) (x 20 0) (x 21 0) (x 22 0)) (fun r u => pst (setS n z v k x) r u) (fun u => cmX T q n d u) := by
  refine cx_inZ (by decide) rfl (Nat.le_of_ble_eq_true rfl) ?_
  intro p e s m below meth cd ls A Q hx hb hml hT hown hret hP hK hD hN hS hA hl
  have hown : s.vm.findClass R_CM = some m.cls := hown
  have hl : lv_has ls 4 [(0, .ref (q 0)), (1, .int (iI (z))), (2, .int (iI (v))), (3, .int (iI (k)))] := hl
  have hC := hX.1
  have hR0 := hX.2.1
  have hF := hX.2.2
  unfold okR at hR0
  refine lv_aload_n hx hb d_CM_set_0 rfl (lv_at hl 0 rfl) ?_
  refine va_get (D := D) (ci := 4) (v := .ref (q 1)) (C := R_CM) (T := T_CM) (N := 7) hx hb hT lays_CM hown hK hP 0 rfl rfl 0 (by decide) (hT _ tw_121) (fun _ h9 => h9) rfl d_CM_set_1 ?_
  refine lv_iload_n hx hb d_CM_set_4 rfl (lv_at hl 1 rfl) ?_
  refine cx_cI (ws2 := fun _ => cmW T q n d (x 0) (x 1) (x 2) (x 3) (x 4) (x 11 0) (x 12 0) (x 13 0) (x 14 0) (x 15 0) (x 16 0) (x 17 0) (x 18 0) (x 19 0) (x 20 0) (x 21 0) (x 22 0)) (cx_rV (q0 := 10) (ci := 3) (rest := []) (As := [.int (iI (z))]) hx hb hml hown hT hK hN hP hD hl.1 tw_147 k_ST_has (c_ST_has l D T s.heap.size q n (x 0) (x 1) hn z (by omega)) ⟨by decide, by decide⟩ ⟨rfl, rfl⟩ [10, 11] (by decide) rfl rfl rfl rfl rfl (Nat.le_of_ble_eq_true rfl) ⟨Nat.zero_le _, Nat.zero_le _⟩ d_CM_set_5) hP hD hS hA [10, 11] [0, 1, 2, 3, 4, 5, 6, 7, 8, 9] [0, 1, 2, 3, 4, 5, 6, 7, 8, 9, 10, 11] rfl (wr := [(q 0, .inr (4, [.ref (q 1), .ref (q 3), .ref (q 5), .ref (q 7), .ref (q 9), .int (iI (x 21 0)), .int (iI (x 22 0))])), (q 9, .inr (2, [.ref (q 1), .ref (q 3), .ref (q 5), .ref (q 7), .ref (q 10), .int (iI (x 11 0)), .int (iI (x 12 0)), .int (iI (x 13 0)), .int (iI (x 14 0)), .int (iI (x 15 0)), .int (iI (x 16 0)), .int (iI (x 17 0))])), (q 3, .inr (1, [.int (iI (20)), .int (iI (80)), .ref (q 4), .int (iI (x 18 0))])), (q 4, .inl (T 0, 1680, .inl (fun jj : Nat => (iF (x 2)) (jj : Int)))), (q 5, .inr (1, [.int (iI (40)), .int (iI (132)), .ref (q 6), .int (iI (x 19 0))])), (q 6, .inl (T 0, 5412, .inl (fun jj : Nat => (iF (x 3)) (jj : Int)))), (q 7, .inr (1, [.int (iI (20)), .int (iI (80)), .ref (q 8), .int (iI (x 20 0))])), (q 8, .inl (T 0, 1680, .inl (fun jj : Nat => (iF (x 4)) (jj : Int)))), (q 10, .inr (0, [.ref (q 1), .ref (q 11)])), (q 11, .inl (T 0, n, .inl (fun jj : Nat => (iF d) (jj : Int))))]) rfl (by decide) (by decide) (fun _ => rfl) (by decide) (fun r u_ H locs hq5 hP hD hS => ?_)
  rcases hq5 with ⟨rfl, h5⟩ | ⟨rfl, h5⟩
  · refine cx_if_eq (tgt := 18) hx hb d_CM_set_8 rfl (by omega) (fun h0 => absurd h0 (by decide)) (fun _ => ?_)
    refine lv_iload_n hx hb d_CM_set_11 rfl (lv_at hl 2 rfl) ?_
    refine cx_cI (ws2 := fun _ => cmW T q n d (x 0) (x 1) (x 2) (x 3) (x 4) (x 11 0) (x 12 0) (x 13 0) (x 14 0) (x 15 0) (x 16 0) (x 17 0) (x 18 0) (x 19 0) (x 20 0) (x 21 0) (x 22 0)) (cx_rS (rest := []) (As := [.int (iI (v))]) hx hb hml hown hT hK hN hP hD hl.1 tw_151 k_CM_isCharacter (c_CM_isCharacter l D T H.size v (by omega)) ⟨by decide, by decide⟩ ⟨rfl, rfl⟩ [] (by decide) rfl rfl rfl (Nat.le_of_ble_eq_true rfl) ⟨Nat.zero_le _, Nat.zero_le _⟩ d_CM_set_12) hP hD hS hA [] [0, 1, 2, 3, 4, 5, 6, 7, 8, 9, 10, 11] [0, 1, 2, 3, 4, 5, 6, 7, 8, 9, 10, 11] rfl (wr := [(q 0, .inr (4, [.ref (q 1), .ref (q 3), .ref (q 5), .ref (q 7), .ref (q 9), .int (iI (x 21 0)), .int (iI (x 22 0))])), (q 9, .inr (2, [.ref (q 1), .ref (q 3), .ref (q 5), .ref (q 7), .ref (q 10), .int (iI (x 11 0)), .int (iI (x 12 0)), .int (iI (x 13 0)), .int (iI (x 14 0)), .int (iI (x 15 0)), .int (iI (x 16 0)), .int (iI (x 17 0))])), (q 3, .inr (1, [.int (iI (20)), .int (iI (80)), .ref (q 4), .int (iI (x 18 0))])), (q 4, .inl (T 0, 1680, .inl (fun jj : Nat => (iF (x 2)) (jj : Int)))), (q 5, .inr (1, [.int (iI (40)), .int (iI (132)), .ref (q 6), .int (iI (x 19 0))])), (q 6, .inl (T 0, 5412, .inl (fun jj : Nat => (iF (x 3)) (jj : Int)))), (q 7, .inr (1, [.int (iI (20)), .int (iI (80)), .ref (q 8), .int (iI (x 20 0))])), (q 8, .inl (T 0, 1680, .inl (fun jj : Nat => (iF (x 4)) (jj : Int)))), (q 10, .inr (0, [.ref (q 1), .ref (q 11)])), (q 11, .inl (T 0, n, .inl (fun jj : Nat => (iF d) (jj : Int)))), (q 1, .inr (3, [.ref (q 2)])), (q 2, .inl (T 0, n, .inl (fun jj : Nat => (ceF (x 0) (x 1)) (jj : Int))))]) rfl (by decide) (by decide) (fun _ => rfl) (by decide) (fun r u_ H locs hq12 hP hD hS => ?_)
    rcases hq12 with ⟨rfl, h12⟩ | ⟨rfl, h12⟩
    · refine cx_if_ne (tgt := 20) hx hb d_CM_set_15 rfl (by omega) (fun _ => ?_) (fun h0 => absurd h0 (by decide))
      refine lv_aload_n hx hb d_CM_set_20 rfl (lv_at hl 0 rfl) ?_
      refine va_get (D := D) (ci := 4) (v := .ref (q 1)) (C := R_CM) (T := T_CM) (N := 7) hx hb hT lays_CM hown hK hP 0 rfl rfl 0 (by decide) (hT _ tw_121) (fun _ h9 => h9) rfl d_CM_set_21 ?_
      refine lv_iload_n hx hb d_CM_set_24 rfl (lv_at hl 1 rfl) ?_
      refine lv_iload_n hx hb d_CM_set_25 rfl (lv_at hl 2 rfl) ?_
      refine lv_iload_n hx hb d_CM_set_26 rfl (lv_at hl 3 rfl) ?_
      refine cx_cV (ws2 := fun _ => cmW T q n d (fu (x 0) (z) (v)) (fu (x 1) (z) (k)) (x 2) (x 3) (x 4) (x 11 0) (x 12 0) (x 13 0) (x 14 0) (x 15 0) (x 16 0) (x 17 0) (x 18 0) (x 19 0) (x 20 0) (x 21 0) (x 22 0)) (cx_rV (q0 := 10) (ci := 3) (rest := []) (As := [.int (iI (z)), .int (iI (v)), .int (iI (k))]) hx hb hml hown hT hK hN hP hD hl.1 tw_154 k_ST_place (c_ST_place l D T H.size q n (x 0) (x 1) hn z (by omega) v (by omega) k (by omega)) ⟨by decide, by decide⟩ ⟨rfl, rfl⟩ [10, 11] (by decide) rfl rfl rfl rfl rfl (Nat.le_of_ble_eq_true rfl) ⟨Nat.zero_le _, Nat.zero_le _⟩ d_CM_set_27) hP hD hS hA [10, 11] [0, 1, 2, 3, 4, 5, 6, 7, 8, 9] [0, 1, 2, 3, 4, 5, 6, 7, 8, 9, 10, 11] rfl (wr := [(q 0, .inr (4, [.ref (q 1), .ref (q 3), .ref (q 5), .ref (q 7), .ref (q 9), .int (iI (x 21 0)), .int (iI (x 22 0))])), (q 9, .inr (2, [.ref (q 1), .ref (q 3), .ref (q 5), .ref (q 7), .ref (q 10), .int (iI (x 11 0)), .int (iI (x 12 0)), .int (iI (x 13 0)), .int (iI (x 14 0)), .int (iI (x 15 0)), .int (iI (x 16 0)), .int (iI (x 17 0))])), (q 3, .inr (1, [.int (iI (20)), .int (iI (80)), .ref (q 4), .int (iI (x 18 0))])), (q 4, .inl (T 0, 1680, .inl (fun jj : Nat => (iF (x 2)) (jj : Int)))), (q 5, .inr (1, [.int (iI (40)), .int (iI (132)), .ref (q 6), .int (iI (x 19 0))])), (q 6, .inl (T 0, 5412, .inl (fun jj : Nat => (iF (x 3)) (jj : Int)))), (q 7, .inr (1, [.int (iI (20)), .int (iI (80)), .ref (q 8), .int (iI (x 20 0))])), (q 8, .inl (T 0, 1680, .inl (fun jj : Nat => (iF (x 4)) (jj : Int)))), (q 10, .inr (0, [.ref (q 1), .ref (q 11)])), (q 11, .inl (T 0, n, .inl (fun jj : Nat => (iF d) (jj : Int))))]) rfl (by decide) (by decide) (fun _ => rfl) (by decide) (fun u_ H locs hq27 hP hD hS => ?_)
      have hC : okC (fu (x 0) (z) (v)) (fu (x 1) (z) (k)) := okC_mk (okC_fu hC (by omega)) (by omega)
      refine cx_iconst hx hb d_CM_set_30 ?_
      exact hret (up (up x 0 (fu (x 0) (z) (v))) 1 (fu (x 1) (z) (k))) (Or.inr rfl) (pst_of (by unfold setS; rw [if_pos (by omega)]) (show okX (up (up x 0 (fu (x 0) (z) (v))) 1 (fu (x 1) (z) (k))) from ⟨hC, (show okR (x 11 0) (x 12 0) (x 13 0) (x 14 0) (x 15 0) (x 16 0) (x 17 0) (x 18 0) (x 19 0) (x 20 0) by have h8 := hX.2.1; unfold okR at h8 ⊢; omega), hX.2.2⟩)) hP hD hS d_CM_set_31
    · refine cx_if_ne (tgt := 20) hx hb d_CM_set_15 rfl (by omega) (fun h0 => absurd h0 (by decide)) (fun _ => ?_)
      refine cx_iconst hx hb d_CM_set_18 ?_
      exact hret x (Or.inl rfl) (pst_of (by unfold setS; rw [if_neg (by omega)]) hX) hP hD hS d_CM_set_19
  · refine cx_if_eq (tgt := 18) hx hb d_CM_set_8 rfl (by omega) (fun _ => ?_) (fun h0 => absurd h0 (by decide))
    refine cx_iconst hx hb d_CM_set_18 ?_
    exact hret x (Or.inl rfl) (pst_of (by unfold setS; rw [if_neg (by omega)]) hX) hP hD hS d_CM_set_19

set_option maxHeartbeats 4000000 in
set_option maxRecDepth 100000 in
theorem c_CM_column (l : Launch) (D : va_G) (T : Nat → ClassId) (sz : Nat) (q : Nat → Nat) (n : Nat) (hn : 400 ≤ n ∧ n ≤ 2000) (d : Int → Int) (x : SX) (hX : okX x) (k : Int) (hk : -2147483648 ≤ k ∧ k < 2147483648) (v : Int) (hv : -2147483648 ≤ v ∧ v < 2147483648) : MI l y_CM_column (wY y_CM_column b_CM_column 3 (some .boolean)) (rmK 1) D vwCl (tyL T) nwL sz [.ref (q 0), .int (iI (k)), .int (iI (v))] (cmW T q n d (x 0) (x 1) (x 2) (x 3) (x 4) (x 11 0) (x 12 0) (x 13 0) (x 14 0) (x 15 0) (x 16 0) (x 17 0) (x 18 0) (x 19 0) (x 20 0) (x 21 0) (x 22 0)) (fun r u => pst (colS k v x) r u) (fun u => cmX T q n d u) := by
  refine cx_inZ (by decide) rfl (Nat.le_of_ble_eq_true rfl) ?_
  intro p e s m below meth cd ls A Q hx hb hml hT hown hret hP hK hD hN hS hA hl
  have hown : s.vm.findClass R_CM = some m.cls := hown
  have hl : lv_has ls 3 [(0, .ref (q 0)), (1, .int (iI (k))), (2, .int (iI (v)))] := hl
  have hC := hX.1
  have hR0 := hX.2.1
  have hF := hX.2.2
  unfold okR at hR0
  refine lv_iload_n hx hb d_CM_column_0 rfl (lv_at hl 1 rfl) ?_
  refine cx_iconst hx hb d_CM_column_1 ?_
  refine cx_icmp_lt (tgt := 18) hx hb d_CM_column_2 rfl (by omega) (by omega) (fun h2 => ?_) (fun h2 => ?_)
  · refine cx_iconst hx hb d_CM_column_18 ?_
    exact hret x (Or.inl rfl) (pst_of (by unfold colS; rw [if_neg (by omega)]) hX) hP hD hS d_CM_column_19
  · refine lv_iload_n hx hb d_CM_column_5 rfl (lv_at hl 1 rfl) ?_
    refine cx_bipush hx hb d_CM_column_6 rfl ?_
    refine cx_icmp_gt (tgt := 18) hx hb d_CM_column_8 rfl (by omega) (by omega) (fun h8 => ?_) (fun h8 => ?_)
    · refine cx_iconst hx hb d_CM_column_18 ?_
      exact hret x (Or.inl rfl) (pst_of (by unfold colS; rw [if_neg (by omega)]) hX) hP hD hS d_CM_column_19
    · refine lv_iload_n hx hb d_CM_column_11 rfl (lv_at hl 2 rfl) ?_
      refine cx_cI (ws2 := fun _ => cmW T q n d (x 0) (x 1) (x 2) (x 3) (x 4) (x 11 0) (x 12 0) (x 13 0) (x 14 0) (x 15 0) (x 16 0) (x 17 0) (x 18 0) (x 19 0) (x 20 0) (x 21 0) (x 22 0)) (cx_rS (rest := []) (As := [.int (iI (v))]) hx hb hml hown hT hK hN hP hD hl.1 tw_151 k_CM_isCharacter (c_CM_isCharacter l D T s.heap.size v (by omega)) ⟨by decide, by decide⟩ ⟨rfl, rfl⟩ [] (by decide) rfl rfl rfl (Nat.le_of_ble_eq_true rfl) ⟨Nat.zero_le _, Nat.zero_le _⟩ d_CM_column_12) hP hD hS hA [] [0, 1, 2, 3, 4, 5, 6, 7, 8, 9, 10, 11] [0, 1, 2, 3, 4, 5, 6, 7, 8, 9, 10, 11] rfl (wr := [(q 0, .inr (4, [.ref (q 1), .ref (q 3), .ref (q 5), .ref (q 7), .ref (q 9), .int (iI (x 21 0)), .int (iI (x 22 0))])), (q 9, .inr (2, [.ref (q 1), .ref (q 3), .ref (q 5), .ref (q 7), .ref (q 10), .int (iI (x 11 0)), .int (iI (x 12 0)), .int (iI (x 13 0)), .int (iI (x 14 0)), .int (iI (x 15 0)), .int (iI (x 16 0)), .int (iI (x 17 0))])), (q 3, .inr (1, [.int (iI (20)), .int (iI (80)), .ref (q 4), .int (iI (x 18 0))])), (q 4, .inl (T 0, 1680, .inl (fun jj : Nat => (iF (x 2)) (jj : Int)))), (q 5, .inr (1, [.int (iI (40)), .int (iI (132)), .ref (q 6), .int (iI (x 19 0))])), (q 6, .inl (T 0, 5412, .inl (fun jj : Nat => (iF (x 3)) (jj : Int)))), (q 7, .inr (1, [.int (iI (20)), .int (iI (80)), .ref (q 8), .int (iI (x 20 0))])), (q 8, .inl (T 0, 1680, .inl (fun jj : Nat => (iF (x 4)) (jj : Int)))), (q 10, .inr (0, [.ref (q 1), .ref (q 11)])), (q 11, .inl (T 0, n, .inl (fun jj : Nat => (iF d) (jj : Int)))), (q 1, .inr (3, [.ref (q 2)])), (q 2, .inl (T 0, n, .inl (fun jj : Nat => (ceF (x 0) (x 1)) (jj : Int))))]) rfl (by decide) (by decide) (fun _ => rfl) (by decide) (fun r u_ H locs hq12 hP hD hS => ?_)
      rcases hq12 with ⟨rfl, h12⟩ | ⟨rfl, h12⟩
      · refine cx_if_ne (tgt := 20) hx hb d_CM_column_15 rfl (by omega) (fun _ => ?_) (fun h0 => absurd h0 (by decide))
        refine lv_aload_n hx hb d_CM_column_20 rfl (lv_at hl 0 rfl) ?_
        refine va_get (D := D) (ci := 4) (v := .ref (q 3)) (C := R_CM) (T := T_CM) (N := 7) hx hb hT lays_CM hown hK hP 0 rfl rfl 1 (by decide) (hT _ tw_122) (fun _ h9 => h9) rfl d_CM_column_21 ?_
        refine lv_iload_n hx hb d_CM_column_24 rfl (lv_at hl 1 rfl) ?_
        refine lv_iload_n hx hb d_CM_column_25 rfl (lv_at hl 2 rfl) ?_
        refine cx_cV (ws2 := fun _ => cmW T q n d (x 0) (x 1) (fu (x 2) (x 18 0 * 80 + k - 1) (v)) (x 3) (x 4) (x 11 0) (x 12 0) (x 13 0) (x 14 0) (x 15 0) (x 16 0) (x 17 0) (x 18 0) (x 19 0) (x 20 0) (x 21 0) (x 22 0)) (cx_rV (q0 := 2) (ci := 1) (rest := []) (As := [.int (iI (k)), .int (iI (v))]) hx hb hml hown hT hK hN hP hD hl.1 tw_162 k_PI_write (c_PI_write l D T H.size (q 3) (q 4) 20 80 1680 (x 2) (x 18 0) (by omega) k v (by omega)) ⟨by decide, by decide⟩ ⟨rfl, rfl⟩ [2, 3] (by decide) rfl rfl rfl rfl rfl (Nat.le_of_ble_eq_true rfl) ⟨Nat.zero_le _, Nat.zero_le _⟩ d_CM_column_26) hP hD hS hA [2, 3] [0, 1, 4, 5, 6, 7, 8, 9, 10, 11] [0, 1, 10, 11, 2, 3, 4, 5, 6, 7, 8, 9] rfl (wr := [(q 0, .inr (4, [.ref (q 1), .ref (q 3), .ref (q 5), .ref (q 7), .ref (q 9), .int (iI (x 21 0)), .int (iI (x 22 0))])), (q 9, .inr (2, [.ref (q 1), .ref (q 3), .ref (q 5), .ref (q 7), .ref (q 10), .int (iI (x 11 0)), .int (iI (x 12 0)), .int (iI (x 13 0)), .int (iI (x 14 0)), .int (iI (x 15 0)), .int (iI (x 16 0)), .int (iI (x 17 0))])), (q 5, .inr (1, [.int (iI (40)), .int (iI (132)), .ref (q 6), .int (iI (x 19 0))])), (q 6, .inl (T 0, 5412, .inl (fun jj : Nat => (iF (x 3)) (jj : Int)))), (q 7, .inr (1, [.int (iI (20)), .int (iI (80)), .ref (q 8), .int (iI (x 20 0))])), (q 8, .inl (T 0, 1680, .inl (fun jj : Nat => (iF (x 4)) (jj : Int)))), (q 10, .inr (0, [.ref (q 1), .ref (q 11)])), (q 11, .inl (T 0, n, .inl (fun jj : Nat => (iF d) (jj : Int)))), (q 1, .inr (3, [.ref (q 2)])), (q 2, .inl (T 0, n, .inl (fun jj : Nat => (ceF (x 0) (x 1)) (jj : Int))))]) rfl (by decide) (by decide) (fun _ => rfl) (by decide) (fun u_ H locs hq26 hP hD hS => ?_)
        have hF : okF (fu (x 2) (x 18 0 * 80 + k - 1) v) (x 18 0) := okF_fu hF (by omega) (by omega)
        refine cx_iconst hx hb d_CM_column_29 ?_
        exact hret (up x 2 (fu (x 2) (x 18 0 * 80 + k - 1) (v))) (Or.inr rfl) (pst_of (by unfold colS; rw [if_pos (by omega)]) (show okX (up x 2 (fu (x 2) (x 18 0 * 80 + k - 1) (v))) from ⟨hX.1, (show okR (x 11 0) (x 12 0) (x 13 0) (x 14 0) (x 15 0) (x 16 0) (x 17 0) (x 18 0) (x 19 0) (x 20 0) by have h8 := hX.2.1; unfold okR at h8 ⊢; omega), hF⟩)) hP hD hS d_CM_column_30
      · refine cx_if_ne (tgt := 20) hx hb d_CM_column_15 rfl (by omega) (fun h0 => absurd h0 (by decide)) (fun _ => ?_)
        refine cx_iconst hx hb d_CM_column_18 ?_
        exact hret x (Or.inl rfl) (pst_of (by unfold colS; rw [if_neg (by omega)]) hX) hP hD hS d_CM_column_19

set_option maxHeartbeats 4000000 in
set_option maxRecDepth 100000 in
theorem c_CM_start (l : Launch) (D : va_G) (T : Nat → ClassId) (sz : Nat) (q : Nat → Nat) (n : Nat) (hn : 400 ≤ n ∧ n ≤ 2000) (d : Int → Int) (x : SX) (hX : okX x) (z : Int) (hz : -2147483648 ≤ z ∧ z < 2147483648) : MI l y_CM_start (wY y_CM_start b_CM_start 2 (some .boolean)) (rmK 1) D vwCl (tyL T) nwL sz [.ref (q 0), .int (iI (z))] (cmW T q n d (x 0) (x 1) (x 2) (x 3) (x 4) (x 11 0) (x 12 0) (x 13 0) (x 14 0) (x 15 0) (x 16 0) (x 17 0) (x 18 0) (x 19 0) (x 20 0) (x 21 0) (x 22 0)) (fun r u => pst (sttS n z x) r u) (fun u => cmX T q n d u) := by
  refine cx_inZ (by decide) rfl (Nat.le_of_ble_eq_true rfl) ?_
  intro p e s m below meth cd ls A Q hx hb hml hT hown hret hP hK hD hN hS hA hl
  have hown : s.vm.findClass R_CM = some m.cls := hown
  have hl : lv_has ls 2 [(0, .ref (q 0)), (1, .int (iI (z)))] := hl
  have hC := hX.1
  have hR0 := hX.2.1
  have hF := hX.2.2
  unfold okR at hR0
  refine lv_aload_n hx hb d_CM_start_0 rfl (lv_at hl 0 rfl) ?_
  refine va_get (D := D) (ci := 4) (v := .ref (q 1)) (C := R_CM) (T := T_CM) (N := 7) hx hb hT lays_CM hown hK hP 0 rfl rfl 0 (by decide) (hT _ tw_121) (fun _ h9 => h9) rfl d_CM_start_1 ?_
  refine lv_iload_n hx hb d_CM_start_4 rfl (lv_at hl 1 rfl) ?_
  refine cx_cI (ws2 := fun _ => cmW T q n d (x 0) (x 1) (x 2) (x 3) (x 4) (x 11 0) (x 12 0) (x 13 0) (x 14 0) (x 15 0) (x 16 0) (x 17 0) (x 18 0) (x 19 0) (x 20 0) (x 21 0) (x 22 0)) (cx_rV (q0 := 10) (ci := 3) (rest := []) (As := [.int (iI (z))]) hx hb hml hown hT hK hN hP hD hl.1 tw_147 k_ST_has (c_ST_has l D T s.heap.size q n (x 0) (x 1) hn z (by omega)) ⟨by decide, by decide⟩ ⟨rfl, rfl⟩ [10, 11] (by decide) rfl rfl rfl rfl rfl (Nat.le_of_ble_eq_true rfl) ⟨Nat.zero_le _, Nat.zero_le _⟩ d_CM_start_5) hP hD hS hA [10, 11] [0, 1, 2, 3, 4, 5, 6, 7, 8, 9] [0, 1, 2, 3, 4, 5, 6, 7, 8, 9, 10, 11] rfl (wr := [(q 0, .inr (4, [.ref (q 1), .ref (q 3), .ref (q 5), .ref (q 7), .ref (q 9), .int (iI (x 21 0)), .int (iI (x 22 0))])), (q 9, .inr (2, [.ref (q 1), .ref (q 3), .ref (q 5), .ref (q 7), .ref (q 10), .int (iI (x 11 0)), .int (iI (x 12 0)), .int (iI (x 13 0)), .int (iI (x 14 0)), .int (iI (x 15 0)), .int (iI (x 16 0)), .int (iI (x 17 0))])), (q 3, .inr (1, [.int (iI (20)), .int (iI (80)), .ref (q 4), .int (iI (x 18 0))])), (q 4, .inl (T 0, 1680, .inl (fun jj : Nat => (iF (x 2)) (jj : Int)))), (q 5, .inr (1, [.int (iI (40)), .int (iI (132)), .ref (q 6), .int (iI (x 19 0))])), (q 6, .inl (T 0, 5412, .inl (fun jj : Nat => (iF (x 3)) (jj : Int)))), (q 7, .inr (1, [.int (iI (20)), .int (iI (80)), .ref (q 8), .int (iI (x 20 0))])), (q 8, .inl (T 0, 1680, .inl (fun jj : Nat => (iF (x 4)) (jj : Int)))), (q 10, .inr (0, [.ref (q 1), .ref (q 11)])), (q 11, .inl (T 0, n, .inl (fun jj : Nat => (iF d) (jj : Int))))]) rfl (by decide) (by decide) (fun _ => rfl) (by decide) (fun r u_ H locs hq5 hP hD hS => ?_)
  rcases hq5 with ⟨rfl, h5⟩ | ⟨rfl, h5⟩
  · refine cx_if_ne (tgt := 13) hx hb d_CM_start_8 rfl (by omega) (fun _ => ?_) (fun h0 => absurd h0 (by decide))
    refine lv_aload_n hx hb d_CM_start_13 rfl (lv_at hl 0 rfl) ?_
    refine va_get (D := D) (ci := 4) (v := .ref (q 9)) (C := R_CM) (T := T_CM) (N := 7) hx hb hT lays_CM hown hK hP 0 rfl rfl 4 (by decide) (hT _ tw_125) (fun _ h9 => h9) rfl d_CM_start_14 ?_
    refine lv_iload_n hx hb d_CM_start_17 rfl (lv_at hl 1 rfl) ?_
    refine va_putN (D := D) (ci := 2) (v := .int (iI (z))) (ty := .int) (C := R_PR) (T := T_PR) (N := 12) hx hb hT lays_PR t_PR t_PR_ok n_PR hown hK hP hD hS 1 rfl rfl 5 (by decide) (va_Nw.use rfl (hN (Jvm.Cond.fieldLinkNest "CharMachine" (84 : Nat) "CharMachine$Processor" "i" "I" "CharMachine") (by decide +kernel))) (fun _ h9 => h9) rfl (by decide +kernel) rfl rfl (Nat.le_of_ble_eq_true rfl) d_CM_start_18 (fun H locs hP hD hS => ?_)
    have hP : va_P D vwCl (cmW T q n d (x 0) (x 1) (x 2) (x 3) (x 4) z (x 12 0) (x 13 0) (x 14 0) (x 15 0) (x 16 0) (x 17 0) (x 18 0) (x 19 0) (x 20 0) (x 21 0) (x 22 0)) H := hP
    have hD : va_D A (cmW T q n d (x 0) (x 1) (x 2) (x 3) (x 4) z (x 12 0) (x 13 0) (x 14 0) (x 15 0) (x 16 0) (x 17 0) (x 18 0) (x 19 0) (x 20 0) (x 21 0) (x 22 0)) := hD
    refine cx_iconst hx hb d_CM_start_21 ?_
    exact hret (up x 11 (cst z)) (Or.inr rfl) (pst_of (by unfold sttS; rw [if_pos (by omega)]) (show okX (up x 11 (cst z)) from ⟨hX.1, (show okR z (x 12 0) (x 13 0) (x 14 0) (x 15 0) (x 16 0) (x 17 0) (x 18 0) (x 19 0) (x 20 0) by have h8 := hX.2.1; unfold okR at h8 ⊢; omega), hX.2.2⟩)) hP hD hS d_CM_start_22
  · refine cx_if_ne (tgt := 13) hx hb d_CM_start_8 rfl (by omega) (fun h0 => absurd h0 (by decide)) (fun _ => ?_)
    refine cx_iconst hx hb d_CM_start_11 ?_
    exact hret x (Or.inl rfl) (pst_of (by unfold sttS; rw [if_neg (by omega)]) hX) hP hD hS d_CM_start_12

set_option maxHeartbeats 4000000 in
set_option maxRecDepth 100000 in
theorem c_CM_state (l : Launch) (D : va_G) (T : Nat → ClassId) (sz : Nat) (q : Nat → Nat) (n : Nat) (hn : 400 ≤ n ∧ n ≤ 2000) (d : Int → Int) (x : SX) (hX : okX x) (v : Int) (hv : -2147483648 ≤ v ∧ v < 2147483648) : MI l y_CM_state (wY y_CM_state b_CM_state 2 (some .int)) (rmK 1) D vwCl (tyL T) nwL sz [.ref (q 0), .int (iI (v))] (cmW T q n d (x 0) (x 1) (x 2) (x 3) (x 4) (x 11 0) (x 12 0) (x 13 0) (x 14 0) (x 15 0) (x 16 0) (x 17 0) (x 18 0) (x 19 0) (x 20 0) (x 21 0) (x 22 0)) (fun r (_ : Unit) => r = iI (stvS n v x)) (fun _ => cmX T q n d x) := by
  refine cx_inI (by decide) rfl (Nat.le_of_ble_eq_true rfl) ?_
  intro p e s m below meth cd ls A Q hx hb hml hT hown hret hP hK hD hN hS hA hl
  have hown : s.vm.findClass R_CM = some m.cls := hown
  have hl : lv_has ls 2 [(0, .ref (q 0)), (1, .int (iI (v)))] := hl
  have hC := hX.1
  have hR0 := hX.2.1
  have hF := hX.2.2
  unfold okR at hR0
  refine lv_iload_n hx hb d_CM_state_0 rfl (lv_at hl 1 rfl) ?_
  by_cases hw9 : 0 ≤ v ∧ v < 64
  case neg =>
    refine cx_tsw (tgt := 134) (off := 133) hx hb d_CM_state_1 (by omega) (by unfold tsw; exact if_pos (by omega)) rfl ?_
    refine cx_iconst hx hb d_CM_state_134 ?_
    exact hret () (by unfold stvS; repeat (first | rfl | omega | (rw [if_pos (by omega)]) | (rw [if_neg (by omega)]) | (congr 1; omega))) hP hD hS d_CM_state_135
  obtain ⟨k9, hk9⟩ : ∃ k : Fin 64, v = (k.val : Int) := fin64 (by omega)
  by_cases hs52 : v = 0
  · refine cx_tsw (tgt := 52) (off := 51) hx hb d_CM_state_1 (by omega) (by rw [hk9]; exact sw_state_52 k9 (by omega)) rfl ?_
    refine lv_aload_n hx hb d_CM_state_52 rfl (lv_at hl 0 rfl) ?_
    refine va_get (D := D) (ci := 4) (v := .ref (q 9)) (C := R_CM) (T := T_CM) (N := 7) hx hb hT lays_CM hown hK hP 0 rfl rfl 4 (by decide) (hT _ tw_125) (fun _ h9 => h9) rfl d_CM_state_53 ?_
    refine va_getN (D := D) (ci := 2) (v := .int (iI (x 11 0))) (C := R_PR) (T := T_PR) (N := 12) hx hb hT lays_PR hown hK hP 1 rfl rfl 5 (by decide) (va_Nw.use rfl (hN (Jvm.Cond.fieldLinkNest "CharMachine" (84 : Nat) "CharMachine$Processor" "i" "I" "CharMachine") (by decide +kernel))) (fun _ h9 => h9) rfl d_CM_state_56 ?_
    exact hret () (by unfold stvS; repeat (first | rfl | omega | (rw [if_pos (by omega)]) | (rw [if_neg (by omega)]) | (congr 1; omega))) hP hD hS d_CM_state_59
  by_cases hs60 : v = 1
  · refine cx_tsw (tgt := 60) (off := 59) hx hb d_CM_state_1 (by omega) (by rw [hk9]; exact sw_state_60 k9 (by omega)) rfl ?_
    refine lv_aload_n hx hb d_CM_state_60 rfl (lv_at hl 0 rfl) ?_
    refine va_get (D := D) (ci := 4) (v := .ref (q 9)) (C := R_CM) (T := T_CM) (N := 7) hx hb hT lays_CM hown hK hP 0 rfl rfl 4 (by decide) (hT _ tw_125) (fun _ h9 => h9) rfl d_CM_state_61 ?_
    refine va_getN (D := D) (ci := 2) (v := .int (iI (x 12 0))) (C := R_PR) (T := T_PR) (N := 12) hx hb hT lays_PR hown hK hP 1 rfl rfl 6 (by decide) (va_Nw.use rfl (hN (Jvm.Cond.fieldLinkNest "CharMachine" (107 : Nat) "CharMachine$Processor" "a" "I" "CharMachine") (by decide +kernel))) (fun _ h9 => h9) rfl d_CM_state_64 ?_
    exact hret () (by unfold stvS; repeat (first | rfl | omega | (rw [if_pos (by omega)]) | (rw [if_neg (by omega)]) | (congr 1; omega))) hP hD hS d_CM_state_67
  by_cases hs68 : v = 2
  · refine cx_tsw (tgt := 68) (off := 67) hx hb d_CM_state_1 (by omega) (by rw [hk9]; exact sw_state_68 k9 (by omega)) rfl ?_
    refine lv_aload_n hx hb d_CM_state_68 rfl (lv_at hl 0 rfl) ?_
    refine va_get (D := D) (ci := 4) (v := .ref (q 9)) (C := R_CM) (T := T_CM) (N := 7) hx hb hT lays_CM hown hK hP 0 rfl rfl 4 (by decide) (hT _ tw_125) (fun _ h9 => h9) rfl d_CM_state_69 ?_
    refine va_getN (D := D) (ci := 2) (v := .int (iI (x 13 0))) (C := R_PR) (T := T_PR) (N := 12) hx hb hT lays_PR hown hK hP 1 rfl rfl 7 (by decide) (va_Nw.use rfl (hN (Jvm.Cond.fieldLinkNest "CharMachine" (110 : Nat) "CharMachine$Processor" "b" "I" "CharMachine") (by decide +kernel))) (fun _ h9 => h9) rfl d_CM_state_72 ?_
    exact hret () (by unfold stvS; repeat (first | rfl | omega | (rw [if_pos (by omega)]) | (rw [if_neg (by omega)]) | (congr 1; omega))) hP hD hS d_CM_state_75
  by_cases hs76 : v = 3
  · refine cx_tsw (tgt := 76) (off := 75) hx hb d_CM_state_1 (by omega) (by rw [hk9]; exact sw_state_76 k9 (by omega)) rfl ?_
    refine lv_aload_n hx hb d_CM_state_76 rfl (lv_at hl 0 rfl) ?_
    refine va_get (D := D) (ci := 4) (v := .ref (q 9)) (C := R_CM) (T := T_CM) (N := 7) hx hb hT lays_CM hown hK hP 0 rfl rfl 4 (by decide) (hT _ tw_125) (fun _ h9 => h9) rfl d_CM_state_77 ?_
    refine va_getN (D := D) (ci := 2) (v := .int (iI (x 14 0))) (C := R_PR) (T := T_PR) (N := 12) hx hb hT lays_PR hown hK hP 1 rfl rfl 8 (by decide) (va_Nw.use rfl (hN (Jvm.Cond.fieldLinkNest "CharMachine" (113 : Nat) "CharMachine$Processor" "comparison" "I" "CharMachine") (by decide +kernel))) (fun _ h9 => h9) rfl d_CM_state_80 ?_
    exact hret () (by unfold stvS; repeat (first | rfl | omega | (rw [if_pos (by omega)]) | (rw [if_neg (by omega)]) | (congr 1; omega))) hP hD hS d_CM_state_83
  by_cases hs84 : v = 4
  · refine cx_tsw (tgt := 84) (off := 83) hx hb d_CM_state_1 (by omega) (by rw [hk9]; exact sw_state_84 k9 (by omega)) rfl ?_
    refine lv_aload_n hx hb d_CM_state_84 rfl (lv_at hl 0 rfl) ?_
    refine va_get (D := D) (ci := 4) (v := .ref (q 9)) (C := R_CM) (T := T_CM) (N := 7) hx hb hT lays_CM hown hK hP 0 rfl rfl 4 (by decide) (hT _ tw_125) (fun _ h9 => h9) rfl d_CM_state_85 ?_
    refine va_getN (D := D) (ci := 2) (v := .int (iI (x 15 0))) (C := R_PR) (T := T_PR) (N := 12) hx hb hT lays_PR hown hK hP 1 rfl rfl 9 (by decide) (va_Nw.use rfl (hN (Jvm.Cond.fieldLinkNest "CharMachine" (116 : Nat) "CharMachine$Processor" "overflow" "Z" "CharMachine") (by decide +kernel))) (fun _ h9 => h9) rfl d_CM_state_88 ?_
    refine cx_if_eq (tgt := 98) hx hb d_CM_state_91 rfl (by omega) (fun h91 => ?_) (fun h91 => ?_)
    · refine cx_iconst hx hb d_CM_state_98 ?_
      exact hret () (by unfold stvS; repeat (first | rfl | omega | (rw [if_pos (by omega)]) | (rw [if_neg (by omega)]) | (congr 1; omega))) hP hD hS d_CM_state_99
    · refine cx_iconst hx hb d_CM_state_94 ?_
      refine lv_goto (tgt := 99) hx hb d_CM_state_95 rfl ?_
      exact hret () (by unfold stvS; repeat (first | rfl | omega | (rw [if_pos (by omega)]) | (rw [if_neg (by omega)]) | (congr 1; omega))) hP hD hS d_CM_state_99
  by_cases hs100 : v = 5
  · refine cx_tsw (tgt := 100) (off := 99) hx hb d_CM_state_1 (by omega) (by rw [hk9]; exact sw_state_100 k9 (by omega)) rfl ?_
    refine lv_aload_n hx hb d_CM_state_100 rfl (lv_at hl 0 rfl) ?_
    refine va_get (D := D) (ci := 4) (v := .ref (q 9)) (C := R_CM) (T := T_CM) (N := 7) hx hb hT lays_CM hown hK hP 0 rfl rfl 4 (by decide) (hT _ tw_125) (fun _ h9 => h9) rfl d_CM_state_101 ?_
    refine va_getN (D := D) (ci := 2) (v := .int (iI (x 16 0))) (C := R_PR) (T := T_PR) (N := 12) hx hb hT lays_PR hown hK hP 1 rfl rfl 10 (by decide) (va_Nw.use rfl (hN (Jvm.Cond.fieldLinkNest "CharMachine" (120 : Nat) "CharMachine$Processor" "lastCard" "Z" "CharMachine") (by decide +kernel))) (fun _ h9 => h9) rfl d_CM_state_104 ?_
    refine cx_if_eq (tgt := 114) hx hb d_CM_state_107 rfl (by omega) (fun h107 => ?_) (fun h107 => ?_)
    · refine cx_iconst hx hb d_CM_state_114 ?_
      exact hret () (by unfold stvS; repeat (first | rfl | omega | (rw [if_pos (by omega)]) | (rw [if_neg (by omega)]) | (congr 1; omega))) hP hD hS d_CM_state_115
    · refine cx_iconst hx hb d_CM_state_110 ?_
      refine lv_goto (tgt := 115) hx hb d_CM_state_111 rfl ?_
      exact hret () (by unfold stvS; repeat (first | rfl | omega | (rw [if_pos (by omega)]) | (rw [if_neg (by omega)]) | (congr 1; omega))) hP hD hS d_CM_state_115
  by_cases hs116 : v = 6
  · refine cx_tsw (tgt := 116) (off := 115) hx hb d_CM_state_1 (by omega) (by rw [hk9]; exact sw_state_116 k9 (by omega)) rfl ?_
    refine lv_aload_n hx hb d_CM_state_116 rfl (lv_at hl 0 rfl) ?_
    refine va_get (D := D) (ci := 4) (v := .int (iI (x 21 0))) (C := R_CM) (T := T_CM) (N := 7) hx hb hT lays_CM hown hK hP 0 rfl rfl 5 (by decide) (hT _ tw_126) (fun _ h9 => h9) rfl d_CM_state_117 ?_
    exact hret () (by unfold stvS; repeat (first | rfl | omega | (rw [if_pos (by omega)]) | (rw [if_neg (by omega)]) | (congr 1; omega))) hP hD hS d_CM_state_120
  by_cases hs121 : v = 7
  · refine cx_tsw (tgt := 121) (off := 120) hx hb d_CM_state_1 (by omega) (by rw [hk9]; exact sw_state_121 k9 (by omega)) rfl ?_
    refine lv_aload_n hx hb d_CM_state_121 rfl (lv_at hl 0 rfl) ?_
    refine va_get (D := D) (ci := 4) (v := .int (iI (x 22 0))) (C := R_CM) (T := T_CM) (N := 7) hx hb hT lays_CM hown hK hP 0 rfl rfl 6 (by decide) (hT _ tw_127) (fun _ h9 => h9) rfl d_CM_state_122 ?_
    exact hret () (by unfold stvS; repeat (first | rfl | omega | (rw [if_pos (by omega)]) | (rw [if_neg (by omega)]) | (congr 1; omega))) hP hD hS d_CM_state_125
  by_cases hs126 : v = 8
  · refine cx_tsw (tgt := 126) (off := 125) hx hb d_CM_state_1 (by omega) (by rw [hk9]; exact sw_state_126 k9 (by omega)) rfl ?_
    refine lv_aload_n hx hb d_CM_state_126 rfl (lv_at hl 0 rfl) ?_
    refine va_get (D := D) (ci := 4) (v := .ref (q 1)) (C := R_CM) (T := T_CM) (N := 7) hx hb hT lays_CM hown hK hP 0 rfl rfl 0 (by decide) (hT _ tw_121) (fun _ h9 => h9) rfl d_CM_state_127 ?_
    refine cx_cI (ws2 := fun _ => cmW T q n d (x 0) (x 1) (x 2) (x 3) (x 4) (x 11 0) (x 12 0) (x 13 0) (x 14 0) (x 15 0) (x 16 0) (x 17 0) (x 18 0) (x 19 0) (x 20 0) (x 21 0) (x 22 0)) (cx_rV (q0 := 10) (ci := 3) (rest := []) (As := []) hx hb hml hown hT hK hN hP hD hl.1 tw_174 k_ST_size (c_ST_size l D T s.heap.size q n (x 0) (x 1) hn ) ⟨by decide, by decide⟩ ⟨rfl, rfl⟩ [10, 11] (by decide) rfl rfl rfl rfl rfl (Nat.le_of_ble_eq_true rfl) ⟨Nat.zero_le _, Nat.zero_le _⟩ d_CM_state_130) hP hD hS hA [10, 11] [0, 1, 2, 3, 4, 5, 6, 7, 8, 9] [0, 1, 2, 3, 4, 5, 6, 7, 8, 9, 10, 11] rfl (wr := [(q 0, .inr (4, [.ref (q 1), .ref (q 3), .ref (q 5), .ref (q 7), .ref (q 9), .int (iI (x 21 0)), .int (iI (x 22 0))])), (q 9, .inr (2, [.ref (q 1), .ref (q 3), .ref (q 5), .ref (q 7), .ref (q 10), .int (iI (x 11 0)), .int (iI (x 12 0)), .int (iI (x 13 0)), .int (iI (x 14 0)), .int (iI (x 15 0)), .int (iI (x 16 0)), .int (iI (x 17 0))])), (q 3, .inr (1, [.int (iI (20)), .int (iI (80)), .ref (q 4), .int (iI (x 18 0))])), (q 4, .inl (T 0, 1680, .inl (fun jj : Nat => (iF (x 2)) (jj : Int)))), (q 5, .inr (1, [.int (iI (40)), .int (iI (132)), .ref (q 6), .int (iI (x 19 0))])), (q 6, .inl (T 0, 5412, .inl (fun jj : Nat => (iF (x 3)) (jj : Int)))), (q 7, .inr (1, [.int (iI (20)), .int (iI (80)), .ref (q 8), .int (iI (x 20 0))])), (q 8, .inl (T 0, 1680, .inl (fun jj : Nat => (iF (x 4)) (jj : Int)))), (q 10, .inr (0, [.ref (q 1), .ref (q 11)])), (q 11, .inl (T 0, n, .inl (fun jj : Nat => (iF d) (jj : Int))))]) rfl (by decide) (by decide) (fun _ => rfl) (by decide) (fun r u_ H locs hq130 hP hD hS => ?_)
    subst hq130
    exact hret () (by unfold stvS; repeat (first | rfl | omega | (rw [if_pos (by omega)]) | (rw [if_neg (by omega)]) | (congr 1; omega))) hP hD hS d_CM_state_133
  refine cx_tsw (tgt := 134) (off := 133) hx hb d_CM_state_1 (by omega) (by rw [hk9]; exact sw_state_d k9 (by omega)) rfl ?_
  refine cx_iconst hx hb d_CM_state_134 ?_
  exact hret () (by unfold stvS; repeat (first | rfl | omega | (rw [if_pos (by omega)]) | (rw [if_neg (by omega)]) | (congr 1; omega))) hP hD hS d_CM_state_135

set_option maxHeartbeats 4000000 in
set_option maxRecDepth 100000 in
theorem c_CM_count (l : Launch) (D : va_G) (T : Nat → ClassId) (sz : Nat) (q : Nat → Nat) (n : Nat) (hn : 400 ≤ n ∧ n ≤ 2000) (d : Int → Int) (x : SX) (hX : okX x) (v : Int) (hv : -2147483648 ≤ v ∧ v < 2147483648) : MI l y_CM_count (wY y_CM_count b_CM_count 2 (some .int)) (rmK 2) D vwCl (tyL T) nwL sz [.ref (q 0), .int (iI (v))] (cmW T q n d (x 0) (x 1) (x 2) (x 3) (x 4) (x 11 0) (x 12 0) (x 13 0) (x 14 0) (x 15 0) (x 16 0) (x 17 0) (x 18 0) (x 19 0) (x 20 0) (x 21 0) (x 22 0)) (fun r (_ : Unit) => r = iI (cntS n v x)) (fun _ => cmX T q n d x) := by
  refine cx_inI (by decide) rfl (Nat.le_of_ble_eq_true rfl) ?_
  intro p e s m below meth cd ls A Q hx hb hml hT hown hret hP hK hD hN hS hA hl
  have hown : s.vm.findClass R_CM = some m.cls := hown
  have hl : lv_has ls 2 [(0, .ref (q 0)), (1, .int (iI (v)))] := hl
  have hC := hX.1
  have hR0 := hX.2.1
  have hF := hX.2.2
  unfold okR at hR0
  refine lv_iload_n hx hb d_CM_count_0 rfl (lv_at hl 1 rfl) ?_
  by_cases hw9 : 0 ≤ v ∧ v < 64
  case neg =>
    refine cx_tsw (tgt := 64) (off := 63) hx hb d_CM_count_1 (by omega) (by unfold tsw; exact if_pos (by omega)) rfl ?_
    refine cx_iconst hx hb d_CM_count_64 ?_
    exact hret () (by unfold cntS; repeat (first | rfl | omega | (rw [if_pos (by omega)]) | (rw [if_neg (by omega)]) | (congr 1; omega))) hP hD hS d_CM_count_65
  obtain ⟨k9, hk9⟩ : ∃ k : Fin 64, v = (k.val : Int) := fin64 (by omega)
  by_cases hs32 : v = 0
  · refine cx_tsw (tgt := 32) (off := 31) hx hb d_CM_count_1 (by omega) (by rw [hk9]; exact sw_count_32 k9 (by omega)) rfl ?_
    refine lv_aload_n hx hb d_CM_count_32 rfl (lv_at hl 0 rfl) ?_
    refine va_get (D := D) (ci := 4) (v := .ref (q 9)) (C := R_CM) (T := T_CM) (N := 7) hx hb hT lays_CM hown hK hP 0 rfl rfl 4 (by decide) (hT _ tw_125) (fun _ h9 => h9) rfl d_CM_count_33 ?_
    refine cx_cI (ws2 := fun _ => cmW T q n d (x 0) (x 1) (x 2) (x 3) (x 4) (x 11 0) (x 12 0) (x 13 0) (x 14 0) (x 15 0) (x 16 0) (x 17 0) (x 18 0) (x 19 0) (x 20 0) (x 21 0) (x 22 0)) (cx_rV (q0 := 1) (ci := 2) (rest := []) (As := []) hx hb hml hown hT hK hN hP hD hl.1 tw_179 k_PR_cardsToRead (c_PR_cardsToRead l D T s.heap.size q n hn d x hX ) ⟨by decide, by decide⟩ ⟨rfl, rfl⟩ [1, 2, 3, 4, 5, 6, 7, 8, 9, 10, 11] (by decide) rfl rfl rfl rfl rfl (Nat.le_of_ble_eq_true rfl) ⟨Nat.zero_le _, Nat.zero_le _⟩ d_CM_count_36) hP hD hS hA [1, 2, 3, 4, 5, 6, 7, 8, 9, 10, 11] [0] [0, 1, 2, 3, 4, 5, 6, 7, 8, 9, 10, 11] rfl (wr := [(q 0, .inr (4, [.ref (q 1), .ref (q 3), .ref (q 5), .ref (q 7), .ref (q 9), .int (iI (x 21 0)), .int (iI (x 22 0))]))]) rfl (by decide) (by decide) (fun _ => rfl) (by decide) (fun r u_ H locs hq36 hP hD hS => ?_)
    subst hq36
    refine cx_eq (y := iI ((x 18 0) - (x 17 0))) rfl ?_
    exact hret () (by unfold cntS; repeat (first | rfl | omega | (rw [if_pos (by omega)]) | (rw [if_neg (by omega)]) | (congr 1; omega))) hP hD hS d_CM_count_39
  by_cases hs40 : v = 1
  · refine cx_tsw (tgt := 40) (off := 39) hx hb d_CM_count_1 (by omega) (by rw [hk9]; exact sw_count_40 k9 (by omega)) rfl ?_
    refine lv_aload_n hx hb d_CM_count_40 rfl (lv_at hl 0 rfl) ?_
    refine va_get (D := D) (ci := 4) (v := .ref (q 5)) (C := R_CM) (T := T_CM) (N := 7) hx hb hT lays_CM hown hK hP 0 rfl rfl 2 (by decide) (hT _ tw_123) (fun _ h9 => h9) rfl d_CM_count_41 ?_
    refine cx_cI (ws2 := fun _ => cmW T q n d (x 0) (x 1) (x 2) (x 3) (x 4) (x 11 0) (x 12 0) (x 13 0) (x 14 0) (x 15 0) (x 16 0) (x 17 0) (x 18 0) (x 19 0) (x 20 0) (x 21 0) (x 22 0)) (cx_rV (q0 := 4) (ci := 1) (rest := []) (As := []) hx hb hml hown hT hK hN hP hD hl.1 tw_187 k_PI_filled (c_PI_filled l D T s.heap.size (q 5) (q 6) 40 132 5412 (x 3) (x 19 0) (by omega) ) ⟨by decide, by decide⟩ ⟨rfl, rfl⟩ [4, 5] (by decide) rfl rfl rfl rfl rfl (Nat.le_of_ble_eq_true rfl) ⟨Nat.zero_le _, Nat.zero_le _⟩ d_CM_count_44) hP hD hS hA [4, 5] [0, 1, 2, 3, 6, 7, 8, 9, 10, 11] [0, 1, 2, 3, 10, 11, 4, 5, 6, 7, 8, 9] rfl (wr := [(q 0, .inr (4, [.ref (q 1), .ref (q 3), .ref (q 5), .ref (q 7), .ref (q 9), .int (iI (x 21 0)), .int (iI (x 22 0))])), (q 9, .inr (2, [.ref (q 1), .ref (q 3), .ref (q 5), .ref (q 7), .ref (q 10), .int (iI (x 11 0)), .int (iI (x 12 0)), .int (iI (x 13 0)), .int (iI (x 14 0)), .int (iI (x 15 0)), .int (iI (x 16 0)), .int (iI (x 17 0))])), (q 3, .inr (1, [.int (iI (20)), .int (iI (80)), .ref (q 4), .int (iI (x 18 0))])), (q 4, .inl (T 0, 1680, .inl (fun jj : Nat => (iF (x 2)) (jj : Int)))), (q 7, .inr (1, [.int (iI (20)), .int (iI (80)), .ref (q 8), .int (iI (x 20 0))])), (q 8, .inl (T 0, 1680, .inl (fun jj : Nat => (iF (x 4)) (jj : Int)))), (q 10, .inr (0, [.ref (q 1), .ref (q 11)])), (q 11, .inl (T 0, n, .inl (fun jj : Nat => (iF d) (jj : Int)))), (q 1, .inr (3, [.ref (q 2)])), (q 2, .inl (T 0, n, .inl (fun jj : Nat => (ceF (x 0) (x 1)) (jj : Int))))]) rfl (by decide) (by decide) (fun _ => rfl) (by decide) (fun r u_ H locs hq44 hP hD hS => ?_)
    subst hq44
    exact hret () (by unfold cntS; repeat (first | rfl | omega | (rw [if_pos (by omega)]) | (rw [if_neg (by omega)]) | (congr 1; omega))) hP hD hS d_CM_count_47
  by_cases hs48 : v = 2
  · refine cx_tsw (tgt := 48) (off := 47) hx hb d_CM_count_1 (by omega) (by rw [hk9]; exact sw_count_48 k9 (by omega)) rfl ?_
    refine lv_aload_n hx hb d_CM_count_48 rfl (lv_at hl 0 rfl) ?_
    refine va_get (D := D) (ci := 4) (v := .ref (q 7)) (C := R_CM) (T := T_CM) (N := 7) hx hb hT lays_CM hown hK hP 0 rfl rfl 3 (by decide) (hT _ tw_124) (fun _ h9 => h9) rfl d_CM_count_49 ?_
    refine cx_cI (ws2 := fun _ => cmW T q n d (x 0) (x 1) (x 2) (x 3) (x 4) (x 11 0) (x 12 0) (x 13 0) (x 14 0) (x 15 0) (x 16 0) (x 17 0) (x 18 0) (x 19 0) (x 20 0) (x 21 0) (x 22 0)) (cx_rV (q0 := 6) (ci := 1) (rest := []) (As := []) hx hb hml hown hT hK hN hP hD hl.1 tw_187 k_PI_filled (c_PI_filled l D T s.heap.size (q 7) (q 8) 20 80 1680 (x 4) (x 20 0) (by omega) ) ⟨by decide, by decide⟩ ⟨rfl, rfl⟩ [6, 7] (by decide) rfl rfl rfl rfl rfl (Nat.le_of_ble_eq_true rfl) ⟨Nat.zero_le _, Nat.zero_le _⟩ d_CM_count_52) hP hD hS hA [6, 7] [0, 1, 2, 3, 4, 5, 8, 9, 10, 11] [0, 1, 2, 3, 4, 5, 10, 11, 6, 7, 8, 9] rfl (wr := [(q 0, .inr (4, [.ref (q 1), .ref (q 3), .ref (q 5), .ref (q 7), .ref (q 9), .int (iI (x 21 0)), .int (iI (x 22 0))])), (q 9, .inr (2, [.ref (q 1), .ref (q 3), .ref (q 5), .ref (q 7), .ref (q 10), .int (iI (x 11 0)), .int (iI (x 12 0)), .int (iI (x 13 0)), .int (iI (x 14 0)), .int (iI (x 15 0)), .int (iI (x 16 0)), .int (iI (x 17 0))])), (q 3, .inr (1, [.int (iI (20)), .int (iI (80)), .ref (q 4), .int (iI (x 18 0))])), (q 4, .inl (T 0, 1680, .inl (fun jj : Nat => (iF (x 2)) (jj : Int)))), (q 5, .inr (1, [.int (iI (40)), .int (iI (132)), .ref (q 6), .int (iI (x 19 0))])), (q 6, .inl (T 0, 5412, .inl (fun jj : Nat => (iF (x 3)) (jj : Int)))), (q 10, .inr (0, [.ref (q 1), .ref (q 11)])), (q 11, .inl (T 0, n, .inl (fun jj : Nat => (iF d) (jj : Int)))), (q 1, .inr (3, [.ref (q 2)])), (q 2, .inl (T 0, n, .inl (fun jj : Nat => (ceF (x 0) (x 1)) (jj : Int))))]) rfl (by decide) (by decide) (fun _ => rfl) (by decide) (fun r u_ H locs hq52 hP hD hS => ?_)
    subst hq52
    exact hret () (by unfold cntS; repeat (first | rfl | omega | (rw [if_pos (by omega)]) | (rw [if_neg (by omega)]) | (congr 1; omega))) hP hD hS d_CM_count_55
  by_cases hs56 : v = 3
  · refine cx_tsw (tgt := 56) (off := 55) hx hb d_CM_count_1 (by omega) (by rw [hk9]; exact sw_count_56 k9 (by omega)) rfl ?_
    refine lv_aload_n hx hb d_CM_count_56 rfl (lv_at hl 0 rfl) ?_
    refine va_get (D := D) (ci := 4) (v := .ref (q 1)) (C := R_CM) (T := T_CM) (N := 7) hx hb hT lays_CM hown hK hP 0 rfl rfl 0 (by decide) (hT _ tw_121) (fun _ h9 => h9) rfl d_CM_count_57 ?_
    refine cx_cI (ws2 := fun _ => cmW T q n d (x 0) (x 1) (x 2) (x 3) (x 4) (x 11 0) (x 12 0) (x 13 0) (x 14 0) (x 15 0) (x 16 0) (x 17 0) (x 18 0) (x 19 0) (x 20 0) (x 21 0) (x 22 0)) (cx_rV (q0 := 10) (ci := 3) (rest := []) (As := []) hx hb hml hown hT hK hN hP hD hl.1 tw_188 k_ST_markCount (c_ST_markCount l D T s.heap.size q n (x 0) (x 1) hn hC) ⟨by decide, by decide⟩ ⟨rfl, rfl⟩ [10, 11] (by decide) rfl rfl rfl rfl rfl (Nat.le_of_ble_eq_true rfl) ⟨Nat.zero_le _, Nat.zero_le _⟩ d_CM_count_60) hP hD hS hA [10, 11] [0, 1, 2, 3, 4, 5, 6, 7, 8, 9] [0, 1, 2, 3, 4, 5, 6, 7, 8, 9, 10, 11] rfl (wr := [(q 0, .inr (4, [.ref (q 1), .ref (q 3), .ref (q 5), .ref (q 7), .ref (q 9), .int (iI (x 21 0)), .int (iI (x 22 0))])), (q 9, .inr (2, [.ref (q 1), .ref (q 3), .ref (q 5), .ref (q 7), .ref (q 10), .int (iI (x 11 0)), .int (iI (x 12 0)), .int (iI (x 13 0)), .int (iI (x 14 0)), .int (iI (x 15 0)), .int (iI (x 16 0)), .int (iI (x 17 0))])), (q 3, .inr (1, [.int (iI (20)), .int (iI (80)), .ref (q 4), .int (iI (x 18 0))])), (q 4, .inl (T 0, 1680, .inl (fun jj : Nat => (iF (x 2)) (jj : Int)))), (q 5, .inr (1, [.int (iI (40)), .int (iI (132)), .ref (q 6), .int (iI (x 19 0))])), (q 6, .inl (T 0, 5412, .inl (fun jj : Nat => (iF (x 3)) (jj : Int)))), (q 7, .inr (1, [.int (iI (20)), .int (iI (80)), .ref (q 8), .int (iI (x 20 0))])), (q 8, .inl (T 0, 1680, .inl (fun jj : Nat => (iF (x 4)) (jj : Int)))), (q 10, .inr (0, [.ref (q 1), .ref (q 11)])), (q 11, .inl (T 0, n, .inl (fun jj : Nat => (iF d) (jj : Int))))]) rfl (by decide) (by decide) (fun _ => rfl) (by decide) (fun r u_ H locs hq60 hP hD hS => ?_)
    subst hq60
    exact hret () (by unfold cntS; repeat (first | rfl | omega | (rw [if_pos (by omega)]) | (rw [if_neg (by omega)]) | (congr 1; omega))) hP hD hS d_CM_count_63
  refine cx_tsw (tgt := 64) (off := 63) hx hb d_CM_count_1 (by omega) (by rw [hk9]; exact sw_count_d k9 (by omega)) rfl ?_
  refine cx_iconst hx hb d_CM_count_64 ?_
  exact hret () (by unfold cntS; repeat (first | rfl | omega | (rw [if_pos (by omega)]) | (rw [if_neg (by omega)]) | (congr 1; omega))) hP hD hS d_CM_count_65
