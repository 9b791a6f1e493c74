/-! the reference: execute, run -/
theorem takS_22 (o k : Int) (x : SX) : takS o k x 22 0 = x 22 0 := by
  unfold takS takB takA
  split <;> split <;> first | rfl | (split <;> rfl)
theorem takS_13 {o k : Int} {x : SX} (h : k < 7) (ho : o = 36 ∨ o = 35 ∨ o = 52 ∨ o = 24 ∨ o = 40 ∨ o = 56) : takS o k x 13 0 = x 13 0 := by
  unfold takS takB takA
  rw [if_neg (by omega), if_neg (by omega)]
  split <;> rfl
/-- one tick: the step with the count one more, its reason kept -/
def tkS (n : Int) (x : SX) : SX := up (stpS n (up x 21 (cst (x 21 0 + 1)))).2 22 (cst (stpS n (up x 21 (cst (x 21 0 + 1)))).1)
def rnS (n : Int) : Nat → SX → SX
  | 0, x => x
  | k + 1, x => if x 22 0 = 0 then rnS n k (tkS n x) else x
def runS (n v : Int) (x : SX) : Int × SX := if 1 ≤ v ∧ v ≤ 20000 then (rnS n v.toNat (up x 22 (cst 0)) 22 0, rnS n v.toNat (up x 22 (cst 0))) else (0, x)
theorem rnS_s {n v j : Int} {z : SX} (h : j < v) (h0 : z 22 0 = 0) : rnS n (v - j).toNat z = rnS n (v - (j + 1)).toNat (tkS n z) := by
  rw [show (v - j).toNat = (v - (j + 1)).toNat + 1 by omega, rnS, if_pos h0]
theorem rnS_e {n v j : Int} {z : SX} (h : v ≤ j ∨ ¬ z 22 0 = 0) : rnS n (v - j).toNat z = z := by
  rcases h with h | h
  · rw [show (v - j).toNat = 0 by omega]; rfl
  · cases e : (v - j).toNat with
    | zero => rfl
    | succ k => rw [rnS, if_neg h]
theorem sw_execute_300 : ∀ k : Fin 64, ((k.val : Int) = 36) → tsw 316 1 60 #[301, 301, 316, 301, 316, 316, 316, 316, 316, 316, 316, 316, 316, 316, 316, 316, 281, 316, 316, 316, 296, 316, 316, 266, 286, 316, 276, 316, 316, 316, 316, 316, 316, 316, 261, 256, 316, 316, 316, 306, 316, 316, 316, 316, 316, 316, 316, 316, 316, 291, 271, 266, 316, 316, 316, 306, 316, 316, 311, 276] (k.val : Int) = 256 := by decide +kernel
theorem sw_execute_305 : ∀ k : Fin 64, ((k.val : Int) = 35) → tsw 316 1 60 #[301, 301, 316, 301, 316, 316, 316, 316, 316, 316, 316, 316, 316, 316, 316, 316, 281, 316, 316, 316, 296, 316, 316, 266, 286, 316, 276, 316, 316, 316, 316, 316, 316, 316, 261, 256, 316, 316, 316, 306, 316, 316, 316, 316, 316, 316, 316, 316, 316, 291, 271, 266, 316, 316, 316, 306, 316, 316, 311, 276] (k.val : Int) = 261 := by decide +kernel
theorem sw_execute_310 : ∀ k : Fin 64, ((k.val : Int) = 24 ∨ (k.val : Int) = 52) → tsw 316 1 60 #[301, 301, 316, 301, 316, 316, 316, 316, 316, 316, 316, 316, 316, 316, 316, 316, 281, 316, 316, 316, 296, 316, 316, 266, 286, 316, 276, 316, 316, 316, 316, 316, 316, 316, 261, 256, 316, 316, 316, 306, 316, 316, 316, 316, 316, 316, 316, 316, 316, 291, 271, 266, 316, 316, 316, 306, 316, 316, 311, 276] (k.val : Int) = 266 := by decide +kernel
theorem sw_execute_315 : ∀ k : Fin 64, ((k.val : Int) = 51) → tsw 316 1 60 #[301, 301, 316, 301, 316, 316, 316, 316, 316, 316, 316, 316, 316, 316, 316, 316, 281, 316, 316, 316, 296, 316, 316, 266, 286, 316, 276, 316, 316, 316, 316, 316, 316, 316, 261, 256, 316, 316, 316, 306, 316, 316, 316, 316, 316, 316, 316, 316, 316, 291, 271, 266, 316, 316, 316, 306, 316, 316, 311, 276] (k.val : Int) = 271 := by decide +kernel
theorem sw_execute_320 : ∀ k : Fin 64, ((k.val : Int) = 27 ∨ (k.val : Int) = 60) → tsw 316 1 60 #[301, 301, 316, 301, 316, 316, 316, 316, 316, 316, 316, 316, 316, 316, 316, 316, 281, 316, 316, 316, 296, 316, 316, 266, 286, 316, 276, 316, 316, 316, 316, 316, 316, 316, 261, 256, 316, 316, 316, 306, 316, 316, 316, 316, 316, 316, 316, 316, 316, 291, 271, 266, 316, 316, 316, 306, 316, 316, 311, 276] (k.val : Int) = 276 := by decide +kernel
theorem sw_execute_325 : ∀ k : Fin 64, ((k.val : Int) = 17) → tsw 316 1 60 #[301, 301, 316, 301, 316, 316, 316, 316, 316, 316, 316, 316, 316, 316, 316, 316, 281, 316, 316, 316, 296, 316, 316, 266, 286, 316, 276, 316, 316, 316, 316, 316, 316, 316, 261, 256, 316, 316, 316, 306, 316, 316, 316, 316, 316, 316, 316, 316, 316, 291, 271, 266, 316, 316, 316, 306, 316, 316, 311, 276] (k.val : Int) = 281 := by decide +kernel
theorem sw_execute_330 : ∀ k : Fin 64, ((k.val : Int) = 25) → tsw 316 1 60 #[301, 301, 316, 301, 316, 316, 316, 316, 316, 316, 316, 316, 316, 316, 316, 316, 281, 316, 316, 316, 296, 316, 316, 266, 286, 316, 276, 316, 316, 316, 316, 316, 316, 316, 261, 256, 316, 316, 316, 306, 316, 316, 316, 316, 316, 316, 316, 316, 316, 291, 271, 266, 316, 316, 316, 306, 316, 316, 311, 276] (k.val : Int) = 286 := by decide +kernel
theorem sw_execute_335 : ∀ k : Fin 64, ((k.val : Int) = 50) → tsw 316 1 60 #[301, 301, 316, 301, 316, 316, 316, 316, 316, 316, 316, 316, 316, 316, 316, 316, 281, 316, 316, 316, 296, 316, 316, 266, 286, 316, 276, 316, 316, 316, 316, 316, 316, 316, 261, 256, 316, 316, 316, 306, 316, 316, 316, 316, 316, 316, 316, 316, 316, 291, 271, 266, 316, 316, 316, 306, 316, 316, 311, 276] (k.val : Int) = 291 := by decide +kernel
theorem sw_execute_340 : ∀ k : Fin 64, ((k.val : Int) = 21) → tsw 316 1 60 #[301, 301, 316, 301, 316, 316, 316, 316, 316, 316, 316, 316, 316, 316, 316, 316, 281, 316, 316, 316, 296, 316, 316, 266, 286, 316, 276, 316, 316, 316, 316, 316, 316, 316, 261, 256, 316, 316, 316, 306, 316, 316, 316, 316, 316, 316, 316, 316, 316, 291, 271, 266, 316, 316, 316, 306, 316, 316, 311, 276] (k.val : Int) = 296 := by decide +kernel
theorem sw_execute_345 : ∀ k : Fin 64, ((k.val : Int) = 1 ∨ (k.val : Int) = 2 ∨ (k.val : Int) = 4) → tsw 316 1 60 #[301, 301, 316, 301, 316, 316, 316, 316, 316, 316, 316, 316, 316, 316, 316, 316, 281, 316, 316, 316, 296, 316, 316, 266, 286, 316, 276, 316, 316, 316, 316, 316, 316, 316, 261, 256, 316, 316, 316, 306, 316, 316, 316, 316, 316, 316, 316, 316, 316, 291, 271, 266, 316, 316, 316, 306, 316, 316, 311, 276] (k.val : Int) = 301 := by decide +kernel
theorem sw_execute_350 : ∀ k : Fin 64, ((k.val : Int) = 40 ∨ (k.val : Int) = 56) → tsw 316 1 60 #[301, 301, 316, 301, 316, 316, 316, 316, 316, 316, 316, 316, 316, 316, 316, 316, 281, 316, 316, 316, 296, 316, 316, 266, 286, 316, 276, 316, 316, 316, 316, 316, 316, 316, 261, 256, 316, 316, 316, 306, 316, 316, 316, 316, 316, 316, 316, 316, 316, 291, 271, 266, 316, 316, 316, 306, 316, 316, 311, 276] (k.val : Int) = 306 := by decide +kernel
theorem sw_execute_355 : ∀ k : Fin 64, ((k.val : Int) = 59) → tsw 316 1 60 #[301, 301, 316, 301, 316, 316, 316, 316, 316, 316, 316, 316, 316, 316, 316, 316, 281, 316, 316, 316, 296, 316, 316, 266, 286, 316, 276, 316, 316, 316, 316, 316, 316, 316, 261, 256, 316, 316, 316, 306, 316, 316, 316, 316, 316, 316, 316, 316, 316, 291, 271, 266, 316, 316, 316, 306, 316, 316, 311, 276] (k.val : Int) = 311 := by decide +kernel
theorem sw_execute_d : ∀ k : Fin 64, ¬ ((k.val : Int) = 36 ∨ (k.val : Int) = 35 ∨ (k.val : Int) = 24 ∨ (k.val : Int) = 52 ∨ (k.val : Int) = 51 ∨ (k.val : Int) = 27 ∨ (k.val : Int) = 60 ∨ (k.val : Int) = 17 ∨ (k.val : Int) = 25 ∨ (k.val : Int) = 50 ∨ (k.val : Int) = 21 ∨ (k.val : Int) = 1 ∨ (k.val : Int) = 2 ∨ (k.val : Int) = 4 ∨ (k.val : Int) = 40 ∨ (k.val : Int) = 56 ∨ (k.val : Int) = 59) → tsw 316 1 60 #[301, 301, 316, 301, 316, 316, 316, 316, 316, 316, 316, 316, 316, 316, 316, 316, 281, 316, 316, 316, 296, 316, 316, 266, 286, 316, 276, 316, 316, 316, 316, 316, 316, 316, 261, 256, 316, 316, 316, 306, 316, 316, 316, 316, 316, 316, 316, 316, 316, 291, 271, 266, 316, 316, 316, 306, 316, 316, 311, 276] (k.val : Int) = 316 := by decide +kernel
set_option maxHeartbeats 4000000 in
set_option maxRecDepth 100000 in
theorem c_MO_execute (l : Launch) (D : va_G) (T : Nat → ClassId) (sz : Nat) (q : Nat → Nat) (n : Nat) (hn : 400 ≤ n ∧ n ≤ 2000) (x y : SX) (hX : okX x) (hY : (0 ≤ y 32 0 ∧ y 32 0 < 64) ∧ (1 ≤ y 33 0 ∧ y 33 0 ≤ 8)) (hI : x 11 0 = y 34 0 + y 33 0 ∧ 1 ≤ x 11 0 ∧ x 11 0 ≤ n) (hH : (-1 ≤ y 35 0 ∧ y 35 0 ≤ 16000) ∧ (-1 ≤ y 36 0 ∧ y 36 0 ≤ 16000)) (hV : (y 32 0 = 50 → ¬ y 33 0 = 6 ∧ ¬ y 33 0 = 7) ∧ (y 32 0 = 40 ∨ y 32 0 = 56 → y 36 0 = x 13 0)) : MI l y_MO_execute (wY y_MO_execute b_MO_execute 1 (some .int)) (rmK 3) D vwCl (tyL T) nwL sz [.ref (q 20)] (moW T q n (x 0) (x 1) (mkF (x 2) (x 18 0)) (cdF (x 2) (x 18 0)) (x 3) (x 4) (x 11 0) (x 12 0) (x 13 0) (x 14 0) (x 15 0) (x 16 0) (x 17 0) (x 18 0) (x 19 0) (x 20 0) (x 21 0) (x 22 0) (y 31 0) (y 32 0) (y 33 0) (y 34 0) (y 35 0) (y 36 0) (y 37) (y 38) (y 39)) (fun r (u : SX × SX) => pst (perS n (y 32 0) (y 33 0) (y 35 0) x) r u.1 ∧ (u.2 31 = y 31 ∧ u.2 33 = y 33)) (fun (u : SX × SX) => moX T q n u.1 u.2) := by
  refine cx_inI (by decide) rfl (Nat.le_of_ble_eq_true rfl) ?_
  intro p e s m below meth cd ls A Q hx hb hml hT hown hret hP hK hD hN hS hA hl
  have hown : s.vm.findClass R_MO = some m.cls := hown
  have hl : lv_has ls 1 [(0, .ref (q 20))] := hl
  have hC := hX.1
  have hR0 := hX.2.1
  have hF := hX.2.2
  unfold okR at hR0
  refine lv_aload_n hx hb d_MO_execute_0 rfl (lv_at hl 0 rfl) ?_
  refine va_get (D := D) (ci := 5) (v := .int (iI (y 32 0))) (C := R_MO) (T := T_MO) (N := 28) hx hb hT lays_MO hown hK hP 0 rfl rfl 12 (by decide) (hT _ tw_648) (fun _ h9 => h9) rfl d_MO_execute_1 ?_
  refine cx_cI (ws2 := fun _ => moW T q n (x 0) (x 1) (mkF (x 2) (x 18 0)) (cdF (x 2) (x 18 0)) (x 3) (x 4) (x 11 0) (x 12 0) (x 13 0) (x 14 0) (x 15 0) (x 16 0) (x 17 0) (x 18 0) (x 19 0) (x 20 0) (x 21 0) (x 22 0) (y 31 0) (y 32 0) (y 33 0) (y 34 0) (y 35 0) (y 36 0) (y 37) (y 38) (y 39)) (cx_rS (rest := []) (As := [.int (iI (y 32 0))]) hx hb hml hown hT hK hN hP hD hl.1 tw_768 k_MO_isArithmetic (c_MO_isArithmetic l D T s.heap.size (y 32 0) (by omega)) ⟨by decide, by decide⟩ ⟨rfl, rfl⟩ [] (by decide) rfl rfl rfl (Nat.le_of_ble_eq_true rfl) ⟨Nat.zero_le _, Nat.zero_le _⟩ d_MO_execute_4) hP hD hS hA [] [0, 1, 2, 3, 4, 5, 6, 7, 8, 9] [0, 1, 2, 3, 4, 5, 6, 7, 8, 9] rfl (wr := [(q 20, .inr (5, [.int (iI (y 31 0)), .int (iI ((n : Int))), .ref (q 21), .ref (q 22), .int (iI (x 11 0)), .int (iI (x 12 0)), .int (iI (x 13 0)), .int (iI (x 14 0)), .int (iI (x 15 0)), .int (iI (x 16 0)), .int (iI (x 21 0)), .int (iI (x 22 0)), .int (iI (y 32 0)), .int (iI (y 33 0)), .int (iI (y 34 0)), .int (iI (y 35 0)), .int (iI (y 36 0)), .ref (q 23), .int (iI (x 18 0)), .int (iI (x 17 0)), .ref (q 24), .int (iI (x 19 0)), .ref (q 25), .int (iI (x 20 0)), .ref (q 26), .ref (q 27), .ref (q 28), .ref (q 29)])), (q 21, .inl (T 1, 2000, .inl (fun jj : Nat => (iF (x 0)) (jj : Int)))), (q 22, .inl (T 2, 2000, .inl (fun jj : Nat => (iF (x 1)) (jj : Int)))), (q 23, .inl (T 1, 80, .inl (fun jj : Nat => (iF (mkF (x 2) (x 18 0))) (jj : Int)))), (q 24, .inl (T 1, 1600, .inl (fun jj : Nat => (iF (cdF (x 2) (x 18 0))) (jj : Int)))), (q 25, .inl (T 1, 5280, .inl (fun jj : Nat => (iF (x 3)) (jj : Int)))), (q 26, .inl (T 1, 1600, .inl (fun jj : Nat => (iF (x 4)) (jj : Int)))), (q 27, .inl (T 0, 2000, .inl (fun jj : Nat => (iF (y 37)) (jj : Int)))), (q 28, .inl (T 0, 2000, .inl (fun jj : Nat => (iF (y 38)) (jj : Int)))), (q 29, .inl (T 1, 2000, .inl (fun jj : Nat => (iF (y 39)) (jj : Int))))]) rfl (by decide) (by decide) (fun _ => rfl) (by decide) (fun r u_ H locs hq4 hP hD hS => ?_)
  rcases hq4 with ⟨rfl, h4⟩ | ⟨rfl, h4⟩
  · refine cx_if_eq (tgt := 40) hx hb d_MO_execute_7 rfl (by omega) (fun h0 => absurd h0 (by decide)) (fun _ => ?_)
    refine lv_aload_n hx hb d_MO_execute_10 rfl (lv_at hl 0 rfl) ?_
    refine va_get (D := D) (ci := 5) (v := .int (iI (y 32 0))) (C := R_MO) (T := T_MO) (N := 28) hx hb hT lays_MO hown hK hP 0 rfl rfl 12 (by decide) (hT _ tw_648) (fun _ h9 => h9) rfl d_MO_execute_11 ?_
    refine cx_bipush hx hb d_MO_execute_14 rfl ?_
    refine cx_icmp_eq (tgt := 28) hx hb d_MO_execute_16 rfl (by omega) (by omega) (fun h16 => ?_) (fun h16 => ?_)
    · refine lv_aload_n hx hb d_MO_execute_28 rfl (lv_at hl 0 rfl) ?_
      refine cx_cI (ws2 := fun (u : SX × SX) => moX T q n u.1 u.2) (cx_rV (q0 := 0) (ci := 5) (rest := []) (As := []) hx hb hml hown hT hK hN hP hD hl.1 tw_782 k_MO_add (c_MO_add l D T H.size q n hn x y hX hY) ⟨by decide, by decide⟩ ⟨rfl, rfl⟩ [0, 1, 2, 3, 4, 5, 6, 7, 8, 9] (by decide) rfl rfl rfl rfl rfl (Nat.le_of_ble_eq_true rfl) ⟨Nat.zero_le _, Nat.zero_le _⟩ d_MO_execute_29) hP hD hS hA [0, 1, 2, 3, 4, 5, 6, 7, 8, 9] [] [0, 1, 2, 3, 4, 5, 6, 7, 8, 9] rfl (wr := []) rfl (by decide) (by decide) (fun _ => rfl) (by decide) (fun r u_ H locs hq29 hP hD hS => ?_)
      refine lv_goto (tgt := 39) hx hb d_MO_execute_32 rfl ?_
      exact hret (u_ : SX × SX) (by rw [show perS n (y 32 0) (y 33 0) (y 35 0) x = calS n 0 (if y 32 0 = 18 then 1 else 0) x by have h9 : y 32 0 = 49 ∨ y 32 0 = 18 := (by omega); rcases h9 with h | h <;> rw [h] <;> rfl]; exact hq29) hP hD hS d_MO_execute_39
    · refine lv_aload_n hx hb d_MO_execute_19 rfl (lv_at hl 0 rfl) ?_
      refine va_get (D := D) (ci := 5) (v := .int (iI (y 32 0))) (C := R_MO) (T := T_MO) (N := 28) hx hb hT lays_MO hown hK hP 0 rfl rfl 12 (by decide) (hT _ tw_648) (fun _ h9 => h9) rfl d_MO_execute_20 ?_
      refine cx_bipush hx hb d_MO_execute_23 rfl ?_
      refine cx_icmp_ne (tgt := 35) hx hb d_MO_execute_25 rfl (by omega) (by omega) (fun h25 => ?_) (fun h25 => ?_)
      · refine lv_aload_n hx hb d_MO_execute_35 rfl (lv_at hl 0 rfl) ?_
        refine cx_cI (ws2 := fun (u : SX × SX) => moX T q n u.1 u.2) (cx_rV (q0 := 0) (ci := 5) (rest := []) (As := []) hx hb hml hown hT hK hN hP hD hl.1 tw_811 k_MO_reset (c_MO_reset l D T H.size q n hn x y hX hY) ⟨by decide, by decide⟩ ⟨rfl, rfl⟩ [0, 1, 2, 3, 4, 5, 6, 7, 8, 9] (by decide) rfl rfl rfl rfl rfl (Nat.le_of_ble_eq_true rfl) ⟨Nat.zero_le _, Nat.zero_le _⟩ d_MO_execute_36) hP hD hS hA [0, 1, 2, 3, 4, 5, 6, 7, 8, 9] [] [0, 1, 2, 3, 4, 5, 6, 7, 8, 9] rfl (wr := []) rfl (by decide) (by decide) (fun _ => rfl) (by decide) (fun r u_ H locs hq36 hP hD hS => ?_)
        exact hret (u_ : SX × SX) (by rw [show perS n (y 32 0) (y 33 0) (y 35 0) x = calS n 1 (if y 32 0 = 42 then 1 else 0) x by have h9 : y 32 0 = 58 ∨ y 32 0 = 42 := (by omega); rcases h9 with h | h <;> rw [h] <;> rfl]; exact hq36) hP hD hS d_MO_execute_39
      · refine lv_aload_n hx hb d_MO_execute_28 rfl (lv_at hl 0 rfl) ?_
        refine cx_cI (ws2 := fun (u : SX × SX) => moX T q n u.1 u.2) (cx_rV (q0 := 0) (ci := 5) (rest := []) (As := []) hx hb hml hown hT hK hN hP hD hl.1 tw_782 k_MO_add (c_MO_add l D T H.size q n hn x y hX hY) ⟨by decide, by decide⟩ ⟨rfl, rfl⟩ [0, 1, 2, 3, 4, 5, 6, 7, 8, 9] (by decide) rfl rfl rfl rfl rfl (Nat.le_of_ble_eq_true rfl) ⟨Nat.zero_le _, Nat.zero_le _⟩ d_MO_execute_29) hP hD hS hA [0, 1, 2, 3, 4, 5, 6, 7, 8, 9] [] [0, 1, 2, 3, 4, 5, 6, 7, 8, 9] rfl (wr := []) rfl (by decide) (by decide) (fun _ => rfl) (by decide) (fun r u_ H locs hq29 hP hD hS => ?_)
        refine lv_goto (tgt := 39) hx hb d_MO_execute_32 rfl ?_
        exact hret (u_ : SX × SX) (by rw [show perS n (y 32 0) (y 33 0) (y 35 0) x = calS n 0 (if y 32 0 = 18 then 1 else 0) x by have h9 : y 32 0 = 49 ∨ y 32 0 = 18 := (by omega); rcases h9 with h | h <;> rw [h] <;> rfl]; exact hq29) hP hD hS d_MO_execute_39
  · refine cx_if_eq (tgt := 40) hx hb d_MO_execute_7 rfl (by omega) (fun _ => ?_) (fun h0 => absurd h0 (by decide))
    refine lv_aload_n hx hb d_MO_execute_40 rfl (lv_at hl 0 rfl) ?_
    refine va_get (D := D) (ci := 5) (v := .int (iI (y 32 0))) (C := R_MO) (T := T_MO) (N := 28) hx hb hT lays_MO hown hK hP 0 rfl rfl 12 (by decide) (hT _ tw_648) (fun _ h9 => h9) rfl d_MO_execute_41 ?_
    obtain ⟨k9, hk9⟩ : ∃ k : Fin 64, (y 32 0) = (k.val : Int) := fin64 (by omega)
    by_cases hs300 : (y 32 0) = 36
    · refine cx_tsw (tgt := 300) (off := 256) hx hb d_MO_execute_44 (by omega) (by rw [hk9]; exact sw_execute_300 k9 (by rw [← hk9]; exact hs300)) rfl ?_
      refine lv_aload_n hx hb d_MO_execute_300 rfl (lv_at hl 0 rfl) ?_
      refine cx_cI (ws2 := fun (u : SX × SX) => moX T q n u.1 u.2) (cx_rV (q0 := 0) (ci := 5) (rest := []) (As := []) hx hb hml hown hT hK hN hP hD hl.1 tw_815 k_MO_move (c_MO_move l D T H.size q n hn x y hX ) ⟨by decide, by decide⟩ ⟨rfl, rfl⟩ [0, 1, 2, 3, 4, 5, 6, 7, 8, 9] (by decide) rfl rfl rfl rfl rfl (Nat.le_of_ble_eq_true rfl) ⟨Nat.zero_le _, Nat.zero_le _⟩ d_MO_execute_301) hP hD hS hA [0, 1, 2, 3, 4, 5, 6, 7, 8, 9] [] [0, 1, 2, 3, 4, 5, 6, 7, 8, 9] rfl (wr := []) rfl (by decide) (by decide) (fun _ => rfl) (by decide) (fun r u_ H locs hq301 hP hD hS => ?_)
      exact hret (u_ : SX × SX) (by rw [show perS n (y 32 0) (y 33 0) (y 35 0) x = movS n x by rw [show y 32 0 = 36 by omega]; rfl]; exact hq301) hP hD hS d_MO_execute_304
    by_cases hs305 : (y 32 0) = 35
    · refine cx_tsw (tgt := 305) (off := 261) hx hb d_MO_execute_44 (by omega) (by rw [hk9]; exact sw_execute_305 k9 (by rw [← hk9]; exact hs305)) rfl ?_
      refine lv_aload_n hx hb d_MO_execute_305 rfl (lv_at hl 0 rfl) ?_
      refine cx_cI (ws2 := fun (u : SX × SX) => moX T q n u.1 u.2) (cx_rV (q0 := 0) (ci := 5) (rest := []) (As := []) hx hb hml hown hT hK hN hP hD hl.1 tw_823 k_MO_load (c_MO_load l D T H.size q n hn x y hX ) ⟨by decide, by decide⟩ ⟨rfl, rfl⟩ [0, 1, 2, 3, 4, 5, 6, 7, 8, 9] (by decide) rfl rfl rfl rfl rfl (Nat.le_of_ble_eq_true rfl) ⟨Nat.zero_le _, Nat.zero_le _⟩ d_MO_execute_306) hP hD hS hA [0, 1, 2, 3, 4, 5, 6, 7, 8, 9] [] [0, 1, 2, 3, 4, 5, 6, 7, 8, 9] rfl (wr := []) rfl (by decide) (by decide) (fun _ => rfl) (by decide) (fun r u_ H locs hq306 hP hD hS => ?_)
      exact hret (u_ : SX × SX) (by rw [show perS n (y 32 0) (y 33 0) (y 35 0) x = lodS n x by rw [show y 32 0 = 35 by omega]; rfl]; exact hq306) hP hD hS d_MO_execute_309
    by_cases hs310 : (y 32 0) = 24 ∨ (y 32 0) = 52
    · refine cx_tsw (tgt := 310) (off := 266) hx hb d_MO_execute_44 (by omega) (by rw [hk9]; exact sw_execute_310 k9 (by rw [← hk9]; exact hs310)) rfl ?_
      refine lv_aload_n hx hb d_MO_execute_310 rfl (lv_at hl 0 rfl) ?_
      refine cx_cI (ws2 := fun (u : SX × SX) => moX T q n u.1 u.2) (cx_rV (q0 := 0) (ci := 5) (rest := []) (As := []) hx hb hml hown hT hK hN hP hD hl.1 tw_827 k_MO_part (c_MO_part l D T H.size q n hn x y hX hY) ⟨by decide, by decide⟩ ⟨rfl, rfl⟩ [0, 1, 2, 3, 4, 5, 6, 7, 8, 9] (by decide) rfl rfl rfl rfl rfl (Nat.le_of_ble_eq_true rfl) ⟨Nat.zero_le _, Nat.zero_le _⟩ d_MO_execute_311) hP hD hS hA [0, 1, 2, 3, 4, 5, 6, 7, 8, 9] [] [0, 1, 2, 3, 4, 5, 6, 7, 8, 9] rfl (wr := []) rfl (by decide) (by decide) (fun _ => rfl) (by decide) (fun r u_ H locs hq311 hP hD hS => ?_)
      exact hret (u_ : SX × SX) (by rw [show perS n (y 32 0) (y 33 0) (y 35 0) x = bitS n (if y 32 0 = 52 then 15 else 48) x by have h9 : y 32 0 = 24 ∨ y 32 0 = 52 := (by omega); rcases h9 with h | h <;> rw [h] <;> rfl]; exact hq311) hP hD hS d_MO_execute_314
    by_cases hs315 : (y 32 0) = 51
    · refine cx_tsw (tgt := 315) (off := 271) hx hb d_MO_execute_44 (by omega) (by rw [hk9]; exact sw_execute_315 k9 (by rw [← hk9]; exact hs315)) rfl ?_
      refine lv_aload_n hx hb d_MO_execute_315 rfl (lv_at hl 0 rfl) ?_
      refine cx_cI (ws2 := fun (u : SX × SX) => moX T q n u.1 u.2) (cx_rV (q0 := 0) (ci := 5) (rest := []) (As := []) hx hb hml hown hT hK hN hP hD hl.1 tw_831 k_MO_compare (c_MO_compare l D T H.size q n hn x y hX ) ⟨by decide, by decide⟩ ⟨rfl, rfl⟩ [0, 1, 2, 3, 4, 5, 6, 7, 8, 9] (by decide) rfl rfl rfl rfl rfl (Nat.le_of_ble_eq_true rfl) ⟨Nat.zero_le _, Nat.zero_le _⟩ d_MO_execute_316) hP hD hS hA [0, 1, 2, 3, 4, 5, 6, 7, 8, 9] [] [0, 1, 2, 3, 4, 5, 6, 7, 8, 9] rfl (wr := []) rfl (by decide) (by decide) (fun _ => rfl) (by decide) (fun r u_ H locs hq316 hP hD hS => ?_)
      exact hret (u_ : SX × SX) (by rw [show perS n (y 32 0) (y 33 0) (y 35 0) x = cmpS n x by rw [show y 32 0 = 51 by omega]; rfl]; exact hq316) hP hD hS d_MO_execute_319
    by_cases hs320 : (y 32 0) = 27 ∨ (y 32 0) = 60
    · refine cx_tsw (tgt := 320) (off := 276) hx hb d_MO_execute_44 (by omega) (by rw [hk9]; exact sw_execute_320 k9 (by rw [← hk9]; exact hs320)) rfl ?_
      refine lv_aload_n hx hb d_MO_execute_320 rfl (lv_at hl 0 rfl) ?_
      refine cx_cI (ws2 := fun (u : SX × SX) => moX T q n u.1 u.2) (cx_rV (q0 := 0) (ci := 5) (rest := []) (As := []) hx hb hml hown hT hK hN hP hD hl.1 tw_838 k_MO_marks (c_MO_marks l D T H.size q n hn x y hX hY) ⟨by decide, by decide⟩ ⟨rfl, rfl⟩ [0, 1, 2, 3, 4, 5, 6, 7, 8, 9] (by decide) rfl rfl rfl rfl rfl (Nat.le_of_ble_eq_true rfl) ⟨Nat.zero_le _, Nat.zero_le _⟩ d_MO_execute_321) hP hD hS hA [0, 1, 2, 3, 4, 5, 6, 7, 8, 9] [] [0, 1, 2, 3, 4, 5, 6, 7, 8, 9] rfl (wr := []) rfl (by decide) (by decide) (fun _ => rfl) (by decide) (fun r u_ H locs hq321 hP hD hS => ?_)
      exact hret (u_ : SX × SX) (by rw [show perS n (y 32 0) (y 33 0) (y 35 0) x = mrkS n (if y 32 0 = 27 then 1 else 0) x by have h9 : y 32 0 = 27 ∨ y 32 0 = 60 := (by omega); rcases h9 with h | h <;> rw [h] <;> rfl]; exact hq321) hP hD hS d_MO_execute_324
    by_cases hs325 : (y 32 0) = 17
    · refine cx_tsw (tgt := 325) (off := 281) hx hb d_MO_execute_44 (by omega) (by rw [hk9]; exact sw_execute_325 k9 (by rw [← hk9]; exact hs325)) rfl ?_
      refine lv_aload_n hx hb d_MO_execute_325 rfl (lv_at hl 0 rfl) ?_
      refine cx_cI (ws2 := fun (u : SX × SX) => moX T q n u.1 u.2) (cx_rV (q0 := 0) (ci := 5) (rest := []) (As := []) hx hb hml hown hT hK hN hP hD hl.1 tw_842 k_MO_clear (c_MO_clear l D T H.size q n hn x y hX hY) ⟨by decide, by decide⟩ ⟨rfl, rfl⟩ [0, 1, 2, 3, 4, 5, 6, 7, 8, 9] (by decide) rfl rfl rfl rfl rfl (Nat.le_of_ble_eq_true rfl) ⟨Nat.zero_le _, Nat.zero_le _⟩ d_MO_execute_326) hP hD hS hA [0, 1, 2, 3, 4, 5, 6, 7, 8, 9] [] [0, 1, 2, 3, 4, 5, 6, 7, 8, 9] rfl (wr := []) rfl (by decide) (by decide) (fun _ => rfl) (by decide) (fun r u_ H locs hq326 hP hD hS => ?_)
      exact hret (u_ : SX × SX) (by rw [show perS n (y 32 0) (y 33 0) (y 35 0) x = clrS n (if y 33 0 = 7 then 1 else 0) x by rw [show y 32 0 = 17 by omega]; rfl]; exact hq326) hP hD hS d_MO_execute_329
    by_cases hs330 : (y 32 0) = 25
    · refine cx_tsw (tgt := 330) (off := 286) hx hb d_MO_execute_44 (by omega) (by rw [hk9]; exact sw_execute_330 k9 (by rw [← hk9]; exact hs330)) rfl ?_
      refine lv_aload_n hx hb d_MO_execute_330 rfl (lv_at hl 0 rfl) ?_
      refine cx_cI (ws2 := fun (u : SX × SX) => moX T q n u.1 u.2) (cx_rV (q0 := 0) (ci := 5) (rest := []) (As := []) hx hb hml hown hT hK hN hP hD hl.1 tw_850 k_MO_edit (c_MO_edit l D T H.size q n hn x y hX ) ⟨by decide, by decide⟩ ⟨rfl, rfl⟩ [0, 1, 2, 3, 4, 5, 6, 7, 8, 9] (by decide) rfl rfl rfl rfl rfl (Nat.le_of_ble_eq_true rfl) ⟨Nat.zero_le _, Nat.zero_le _⟩ d_MO_execute_331) hP hD hS hA [0, 1, 2, 3, 4, 5, 6, 7, 8, 9] [] [0, 1, 2, 3, 4, 5, 6, 7, 8, 9] rfl (wr := []) rfl (by decide) (by decide) (fun _ => rfl) (by decide) (fun r u_ H locs hq331 hP hD hS => ?_)
      exact hret (u_ : SX × SX) (by rw [show perS n (y 32 0) (y 33 0) (y 35 0) x = supS n x by rw [show y 32 0 = 25 by omega]; rfl]; exact hq331) hP hD hS d_MO_execute_334
    by_cases hs335 : (y 32 0) = 50
    · refine cx_tsw (tgt := 335) (off := 291) hx hb d_MO_execute_44 (by omega) (by rw [hk9]; exact sw_execute_335 k9 (by rw [← hk9]; exact hs335)) rfl ?_
      refine lv_aload_n hx hb d_MO_execute_335 rfl (lv_at hl 0 rfl) ?_
      refine cx_cI (ws2 := fun (u : SX × SX) => moX T q n u.1 u.2) (cx_rV (q0 := 0) (ci := 5) (rest := []) (As := []) hx hb hml hown hT hK hN hP hD hl.1 tw_854 k_MO_branch (c_MO_branch l D T H.size q n hn x y hX hY hI (hV.1 (by omega))) ⟨by decide, by decide⟩ ⟨rfl, rfl⟩ [0, 1, 2, 3, 4, 5, 6, 7, 8, 9] (by decide) rfl rfl rfl rfl rfl (Nat.le_of_ble_eq_true rfl) ⟨Nat.zero_le _, Nat.zero_le _⟩ d_MO_execute_336) hP hD hS hA [0, 1, 2, 3, 4, 5, 6, 7, 8, 9] [] [0, 1, 2, 3, 4, 5, 6, 7, 8, 9] rfl (wr := []) rfl (by decide) (by decide) (fun _ => rfl) (by decide) (fun r u_ H locs hq336 hP hD hS => ?_)
      exact hret (u_ : SX × SX) (by rw [show perS n (y 32 0) (y 33 0) (y 35 0) x = brnS n (y 33 0) x by rw [show y 32 0 = 50 by omega]; rfl]; exact hq336) hP hD hS d_MO_execute_339
    by_cases hs340 : (y 32 0) = 21
    · refine cx_tsw (tgt := 340) (off := 296) hx hb d_MO_execute_44 (by omega) (by rw [hk9]; exact sw_execute_340 k9 (by rw [← hk9]; exact hs340)) rfl ?_
      refine lv_aload_n hx hb d_MO_execute_340 rfl (lv_at hl 0 rfl) ?_
      refine cx_cI (ws2 := fun (u : SX × SX) => moX T q n u.1 u.2) (cx_rV (q0 := 0) (ci := 5) (rest := []) (As := []) hx hb hml hown hT hK hN hP hD hl.1 tw_862 k_MO_branchMark (c_MO_branchMark l D T H.size q n hn x y hX hY hI) ⟨by decide, by decide⟩ ⟨rfl, rfl⟩ [0, 1, 2, 3, 4, 5, 6, 7, 8, 9] (by decide) rfl rfl rfl rfl rfl (Nat.le_of_ble_eq_true rfl) ⟨Nat.zero_le _, Nat.zero_le _⟩ d_MO_execute_341) hP hD hS hA [0, 1, 2, 3, 4, 5, 6, 7, 8, 9] [] [0, 1, 2, 3, 4, 5, 6, 7, 8, 9] rfl (wr := []) rfl (by decide) (by decide) (fun _ => rfl) (by decide) (fun r u_ H locs hq341 hP hD hS => ?_)
      exact hret (u_ : SX × SX) (by rw [show perS n (y 32 0) (y 33 0) (y 35 0) x = bpsS n x by rw [show y 32 0 = 21 by omega]; rfl]; exact hq341) hP hD hS d_MO_execute_344
    by_cases hs345 : (y 32 0) = 1 ∨ (y 32 0) = 2 ∨ (y 32 0) = 4
    · refine cx_tsw (tgt := 345) (off := 301) hx hb d_MO_execute_44 (by omega) (by rw [hk9]; exact sw_execute_345 k9 (by rw [← hk9]; exact hs345)) rfl ?_
      refine lv_aload_n hx hb d_MO_execute_345 rfl (lv_at hl 0 rfl) ?_
      refine cx_cI (ws2 := fun (u : SX × SX) => moX T q n u.1 u.2) (cx_rV (q0 := 0) (ci := 5) (rest := []) (As := []) hx hb hml hown hT hK hN hP hD hl.1 tw_866 k_MO_device (c_MO_device l D T H.size q n hn x y hX hY) ⟨by decide, by decide⟩ ⟨rfl, rfl⟩ [0, 1, 2, 3, 4, 5, 6, 7, 8, 9] (by decide) rfl rfl rfl rfl rfl (Nat.le_of_ble_eq_true rfl) ⟨Nat.zero_le _, Nat.zero_le _⟩ d_MO_execute_346) hP hD hS hA [0, 1, 2, 3, 4, 5, 6, 7, 8, 9] [] [0, 1, 2, 3, 4, 5, 6, 7, 8, 9] rfl (wr := []) rfl (by decide) (by decide) (fun _ => rfl) (by decide) (fun r u_ H locs hq346 hP hD hS => ?_)
      exact hret (u_ : SX × SX) (by rw [show perS n (y 32 0) (y 33 0) (y 35 0) x = dvcS (y 32 0) (y 33 0) x by have h9 : y 32 0 = 1 ∨ y 32 0 = 2 ∨ y 32 0 = 4 := (by omega); rcases h9 with h | h | h <;> rw [h] <;> rfl]; exact hq346) hP hD hS d_MO_execute_349
    by_cases hs350 : (y 32 0) = 40 ∨ (y 32 0) = 56
    · refine cx_tsw (tgt := 350) (off := 306) hx hb d_MO_execute_44 (by omega) (by rw [hk9]; exact sw_execute_350 k9 (by rw [← hk9]; exact hs350)) rfl ?_
      refine lv_aload_n hx hb d_MO_execute_350 rfl (lv_at hl 0 rfl) ?_
      refine cx_cI (ws2 := fun (u : SX × SX) => moX T q n u.1 u.2) (cx_rV (q0 := 0) (ci := 5) (rest := []) (As := []) hx hb hml hown hT hK hN hP hD hl.1 tw_882 k_MO_keepRegister (c_MO_keepRegister l D T H.size q n hn x y hX hY hH (hV.2 (by omega))) ⟨by decide, by decide⟩ ⟨rfl, rfl⟩ [0, 1, 2, 3, 4, 5, 6, 7, 8, 9] (by decide) rfl rfl rfl rfl rfl (Nat.le_of_ble_eq_true rfl) ⟨Nat.zero_le _, Nat.zero_le _⟩ d_MO_execute_351) hP hD hS hA [0, 1, 2, 3, 4, 5, 6, 7, 8, 9] [] [0, 1, 2, 3, 4, 5, 6, 7, 8, 9] rfl (wr := []) rfl (by decide) (by decide) (fun _ => rfl) (by decide) (fun r u_ H locs hq351 hP hD hS => ?_)
      exact hret (u_ : SX × SX) (by rw [show perS n (y 32 0) (y 33 0) (y 35 0) x = staS n (if y 32 0 = 40 then y 35 0 else y 36 0) x by have e9 := hV.2 (by omega); rcases hs350 with h | h <;> rw [h]; rfl; rw [e9]; rfl]; exact hq351) hP hD hS d_MO_execute_354
    by_cases hs355 : (y 32 0) = 59
    · refine cx_tsw (tgt := 355) (off := 311) hx hb d_MO_execute_44 (by omega) (by rw [hk9]; exact sw_execute_355 k9 (by rw [← hk9]; exact hs355)) rfl ?_
      refine lv_aload_n hx hb d_MO_execute_355 rfl (lv_at hl 0 rfl) ?_
      refine cx_cI (ws2 := fun (u : SX × SX) => moX T q n u.1 u.2) (cx_rV (q0 := 0) (ci := 5) (rest := []) (As := []) hx hb hml hown hT hK hN hP hD hl.1 tw_886 k_MO_stopHere (c_MO_stopHere l D T H.size q n hn x y hX hY) ⟨by decide, by decide⟩ ⟨rfl, rfl⟩ [0, 1, 2, 3, 4, 5, 6, 7, 8, 9] (by decide) rfl rfl rfl rfl rfl (Nat.le_of_ble_eq_true rfl) ⟨Nat.zero_le _, Nat.zero_le _⟩ d_MO_execute_356) hP hD hS hA [0, 1, 2, 3, 4, 5, 6, 7, 8, 9] [] [0, 1, 2, 3, 4, 5, 6, 7, 8, 9] rfl (wr := []) rfl (by decide) (by decide) (fun _ => rfl) (by decide) (fun r u_ H locs hq356 hP hD hS => ?_)
      exact hret (u_ : SX × SX) (by rw [show perS n (y 32 0) (y 33 0) (y 35 0) x = (6, gof (if y 33 0 = 4 then 1 else 0) x) by rw [show y 32 0 = 59 by omega]; rfl]; exact hq356) hP hD hS d_MO_execute_359
    refine cx_tsw (tgt := 360) (off := 316) hx hb d_MO_execute_44 (by omega) (by rw [hk9]; exact sw_execute_d k9 (fun h9 => by rw [← hk9] at h9; rcases h9 with h9 | h9 | h9 | h9 | h9 | h9 | h9 | h9 | h9 | h9 | h9 | h9 | h9 | h9 | h9 | h9 | h9 <;> omega)) rfl ?_
    refine cx_iconst hx hb d_MO_execute_360 ?_
    exact hret ((x, y) : SX × SX) (⟨pst_of (by unfold perS; repeat (first | rfl | (rw [if_neg (by omega)]))) hX, ⟨rfl, rfl⟩⟩) hP hD hS d_MO_execute_361

set_option maxHeartbeats 4000000 in
set_option maxRecDepth 100000 in
theorem c_MO_run (l : Launch) (D : va_G) (T : Nat → ClassId) (sz : Nat) (q : Nat → Nat) (n : Nat) (hn : 400 ≤ n ∧ n ≤ 2000) (x y : SX) (hX : okX x) (v : Int) (hv : -2147483648 ≤ v ∧ v < 2147483648) : MI l y_MO_run (wY y_MO_run b_MO_run 3 (some .int)) (rmK 4) D vwCl (tyL T) nwL sz [.ref (q 20), .int (iI (v))] (moW T q n (x 0) (x 1) (mkF (x 2) (x 18 0)) (cdF (x 2) (x 18 0)) (x 3) (x 4) (x 11 0) (x 12 0) (x 13 0) (x 14 0) (x 15 0) (x 16 0) (x 17 0) (x 18 0) (x 19 0) (x 20 0) (x 21 0) (x 22 0) (y 31 0) (y 32 0) (y 33 0) (y 34 0) (y 35 0) (y 36 0) (y 37) (y 38) (y 39)) (fun r (u : SX × SX) => pst (runS n v x) r u.1 ∧ u.2 31 0 = (if 1 ≤ v ∧ v ≤ 20000 then 0 else 1)) (fun (u : SX × SX) => moX T q n u.1 u.2) := by
  refine cx_inI (by decide) rfl (Nat.le_of_ble_eq_true rfl) ?_
  intro p e s m below meth cd ls A Q hx hb hml hT hown hret hP hK hD hN hS hA hl
  have hown : s.vm.findClass R_MO = some m.cls := hown
  have hl : lv_has ls 3 [(0, .ref (q 20)), (1, .int (iI (v)))] := hl
  have hC := hX.1
  have hR0 := hX.2.1
  have hF := hX.2.2
  unfold okR at hR0
  refine lv_aload_n hx hb d_MO_run_0 rfl (lv_at hl 0 rfl) ?_
  refine lv_iload_n hx hb d_MO_run_1 rfl (lv_at hl 1 rfl) ?_
  refine cx_iconst hx hb d_MO_run_2 ?_
  refine cx_icmp_lt (tgt := 13) hx hb d_MO_run_3 rfl (by omega) (by omega) (fun h3 => ?_) (fun h3 => ?_)
  · refine cx_iconst hx hb d_MO_run_13 ?_
    refine lv_goto (tgt := 18) hx hb d_MO_run_14 rfl ?_
    refine va_put (D := D) (ci := 5) (v := .int (iI (1))) (ty := .int) (C := R_MO) (T := T_MO) (N := 28) hx hb hT lays_MO t_MO t_MO_ok n_MO hown hK hP hD hS 0 rfl rfl 0 (by decide) (hT _ tw_636) (fun _ h9 => h9) rfl (by decide +kernel) rfl rfl (Nat.le_of_ble_eq_true rfl) d_MO_run_18 (fun H locs hP hD hS => ?_)
    have hP : va_P D vwCl (moW T q n (x 0) (x 1) (mkF (x 2) (x 18 0)) (cdF (x 2) (x 18 0)) (x 3) (x 4) (x 11 0) (x 12 0) (x 13 0) (x 14 0) (x 15 0) (x 16 0) (x 17 0) (x 18 0) (x 19 0) (x 20 0) (x 21 0) (x 22 0) 1 (y 32 0) (y 33 0) (y 34 0) (y 35 0) (y 36 0) (y 37) (y 38) (y 39)) H := hP
    have hD : va_D A (moW T q n (x 0) (x 1) (mkF (x 2) (x 18 0)) (cdF (x 2) (x 18 0)) (x 3) (x 4) (x 11 0) (x 12 0) (x 13 0) (x 14 0) (x 15 0) (x 16 0) (x 17 0) (x 18 0) (x 19 0) (x 20 0) (x 21 0) (x 22 0) 1 (y 32 0) (y 33 0) (y 34 0) (y 35 0) (y 36 0) (y 37) (y 38) (y 39)) := hD
    refine lv_aload_n hx hb d_MO_run_21 rfl (lv_at hl 0 rfl) ?_
    refine va_get (D := D) (ci := 5) (v := .int (iI (1))) (C := R_MO) (T := T_MO) (N := 28) hx hb hT lays_MO hown hK hP 0 rfl rfl 0 (by decide) (hT _ tw_636) (fun _ h9 => h9) rfl d_MO_run_22 ?_
    refine cx_if_le (tgt := 30) hx hb d_MO_run_25 rfl (by omega) (fun h0 => absurd h0 (by decide)) (fun _ => ?_)
    refine cx_iconst hx hb d_MO_run_28 ?_
    exact hret ((x, up y 31 (cst 1)) : SX × SX) (⟨pst_of (by unfold runS; rw [if_neg (by omega)]) hX, by rw [if_neg (by omega)]; rfl⟩) hP hD hS d_MO_run_29
  · refine lv_iload_n hx hb d_MO_run_6 rfl (lv_at hl 1 rfl) ?_
    refine cx_sipush hx hb d_MO_run_7 rfl ?_
    refine cx_icmp_le (tgt := 17) hx hb d_MO_run_10 rfl (by omega) (by omega) (fun h10 => ?_) (fun h10 => ?_)
    · refine cx_iconst hx hb d_MO_run_17 ?_
      refine va_put (D := D) (ci := 5) (v := .int (iI (0))) (ty := .int) (C := R_MO) (T := T_MO) (N := 28) hx hb hT lays_MO t_MO t_MO_ok n_MO hown hK hP hD hS 0 rfl rfl 0 (by decide) (hT _ tw_636) (fun _ h9 => h9) rfl (by decide +kernel) rfl rfl (Nat.le_of_ble_eq_true rfl) d_MO_run_18 (fun H locs hP hD hS => ?_)
      have hP : va_P D vwCl (moW T q n (x 0) (x 1) (mkF (x 2) (x 18 0)) (cdF (x 2) (x 18 0)) (x 3) (x 4) (x 11 0) (x 12 0) (x 13 0) (x 14 0) (x 15 0) (x 16 0) (x 17 0) (x 18 0) (x 19 0) (x 20 0) (x 21 0) (x 22 0) 0 (y 32 0) (y 33 0) (y 34 0) (y 35 0) (y 36 0) (y 37) (y 38) (y 39)) H := hP
      have hD : va_D A (moW T q n (x 0) (x 1) (mkF (x 2) (x 18 0)) (cdF (x 2) (x 18 0)) (x 3) (x 4) (x 11 0) (x 12 0) (x 13 0) (x 14 0) (x 15 0) (x 16 0) (x 17 0) (x 18 0) (x 19 0) (x 20 0) (x 21 0) (x 22 0) 0 (y 32 0) (y 33 0) (y 34 0) (y 35 0) (y 36 0) (y 37) (y 38) (y 39)) := hD
      refine lv_aload_n hx hb d_MO_run_21 rfl (lv_at hl 0 rfl) ?_
      refine va_get (D := D) (ci := 5) (v := .int (iI (0))) (C := R_MO) (T := T_MO) (N := 28) hx hb hT lays_MO hown hK hP 0 rfl rfl 0 (by decide) (hT _ tw_636) (fun _ h9 => h9) rfl d_MO_run_22 ?_
      refine cx_if_le (tgt := 30) hx hb d_MO_run_25 rfl (by omega) (fun _ => ?_) (fun h0 => absurd h0 (by decide))
      refine lv_aload_n hx hb d_MO_run_30 rfl (lv_at hl 0 rfl) ?_
      refine cx_iconst hx hb d_MO_run_31 ?_
      refine va_put (D := D) (ci := 5) (v := .int (iI (0))) (ty := .int) (C := R_MO) (T := T_MO) (N := 28) hx hb hT lays_MO t_MO t_MO_ok n_MO hown hK hP hD hS 0 rfl rfl 11 (by decide) (hT _ tw_647) (fun _ h9 => h9) rfl (by decide +kernel) rfl rfl (Nat.le_of_ble_eq_true rfl) d_MO_run_32 (fun H locs hP hD hS => ?_)
      have hP : va_P D vwCl (moW T q n (x 0) (x 1) (mkF (x 2) (x 18 0)) (cdF (x 2) (x 18 0)) (x 3) (x 4) (x 11 0) (x 12 0) (x 13 0) (x 14 0) (x 15 0) (x 16 0) (x 17 0) (x 18 0) (x 19 0) (x 20 0) (x 21 0) 0 0 (y 32 0) (y 33 0) (y 34 0) (y 35 0) (y 36 0) (y 37) (y 38) (y 39)) H := hP
      have hD : va_D A (moW T q n (x 0) (x 1) (mkF (x 2) (x 18 0)) (cdF (x 2) (x 18 0)) (x 3) (x 4) (x 11 0) (x 12 0) (x 13 0) (x 14 0) (x 15 0) (x 16 0) (x 17 0) (x 18 0) (x 19 0) (x 20 0) (x 21 0) 0 0 (y 32 0) (y 33 0) (y 34 0) (y 35 0) (y 36 0) (y 37) (y 38) (y 39)) := hD
      refine cx_iconst hx hb d_MO_run_35 ?_
      refine lv_istore_n (lv' := [(2, .int (iI (0))), (0, .ref (q 20)), (1, .int (iI (v)))]) hx hb d_MO_run_36 rfl hl (by decide) rfl (fun ls hl => ?_)
      have L1 : ∀ (k_ : Nat) (j : Int) (z : SX) (y1 : SX) (H : Heap) (locs : List Loc) (ls : Array Slot), (0 ≤ j ∧ j ≤ v ∧ v - j < k_) → (okX z) → (y1 31 0 = 0) → (0 ≤ z 22 0 ∧ z 22 0 ≤ 6) → (rnS n v.toNat (up x 22 (cst 0)) = rnS n (v - j).toNat z) → va_P D vwCl (moW T q n (z 0) (z 1) (mkF (z 2) (z 18 0)) (cdF (z 2) (z 18 0)) (z 3) (z 4) (z 11 0) (z 12 0) (z 13 0) (z 14 0) (z 15 0) (z 16 0) (z 17 0) (z 18 0) (z 19 0) (z 20 0) (z 21 0) (z 22 0) (y1 31 0) (y1 32 0) (y1 33 0) (y1 34 0) (y1 35 0) (y1 36 0) (y1 37) (y1 38) (y1 39)) H → va_D A (moW T q n (z 0) (z 1) (mkF (z 2) (z 18 0)) (cdF (z 2) (z 18 0)) (z 3) (z 4) (z 11 0) (z 12 0) (z 13 0) (z 14 0) (z 15 0) (z 16 0) (z 17 0) (z 18 0) (z 19 0) (z 20 0) (z 21 0) (z 22 0) (y1 31 0) (y1 32 0) (y1 33 0) (y1 34 0) (y1 35 0) (y1 36 0) (y1 37) (y1 38) (y1 39)) → va_S A s.heap H locs → lv_has ls 3 [(2, .int (iI (j))), (0, .ref (q 20)), (1, .int (iI (v)))] → W p l e (rmK 4) s m ([.ref (q 20), .int (iI (v))] : List Value).toArray below meth cd H locs 0 0 Q (F0 m 37 ls []) := by
        intro k_
        induction k_ with
        | zero => intro j z y1 H locs ls hj hZ h31 h22 hr _ _ _ _; exact absurd hj (by omega)
        | succ k_ ih1 =>
          intro j z y1 H locs ls hj hZ h31 h22 hr hP hD hS hl
          refine lv_iload_n hx hb d_MO_run_37 rfl (lv_at hl 0 rfl) ?_
          refine lv_iload_n hx hb d_MO_run_38 rfl (lv_at hl 2 rfl) ?_
          refine cx_icmp_ge (tgt := 95) hx hb d_MO_run_39 rfl (by omega) (by omega) (fun h39 => ?_) (fun h39 => ?_)
          · refine lv_aload_n hx hb d_MO_run_95 rfl (lv_at hl 1 rfl) ?_
            refine va_get (D := D) (ci := 5) (v := .int (iI (z 22 0))) (C := R_MO) (T := T_MO) (N := 28) hx hb hT lays_MO hown hK hP 0 rfl rfl 11 (by decide) (hT _ tw_647) (fun _ h9 => h9) rfl d_MO_run_96 ?_
            exact hret ((z, y1) : SX × SX) (⟨pst_of (by unfold runS; rw [if_pos (by omega), hr, rnS_e (by omega)]) hZ, by rw [if_pos (by omega)]; exact h31⟩) hP hD hS d_MO_run_99
          · refine lv_aload_n hx hb d_MO_run_42 rfl (lv_at hl 1 rfl) ?_
            refine va_get (D := D) (ci := 5) (v := .int (iI (z 22 0))) (C := R_MO) (T := T_MO) (N := 28) hx hb hT lays_MO hown hK hP 0 rfl rfl 11 (by decide) (hT _ tw_647) (fun _ h9 => h9) rfl d_MO_run_43 ?_
            refine cx_if_ne (tgt := 95) hx hb d_MO_run_46 rfl (by omega) (fun h46 => ?_) (fun h46 => ?_)
            · refine lv_aload_n hx hb d_MO_run_95 rfl (lv_at hl 1 rfl) ?_
              refine va_get (D := D) (ci := 5) (v := .int (iI (z 22 0))) (C := R_MO) (T := T_MO) (N := 28) hx hb hT lays_MO hown hK hP 0 rfl rfl 11 (by decide) (hT _ tw_647) (fun _ h9 => h9) rfl d_MO_run_96 ?_
              exact hret ((z, y1) : SX × SX) (⟨pst_of (by unfold runS; rw [if_pos (by omega), hr, rnS_e (by omega)]) hZ, by rw [if_pos (by omega)]; exact h31⟩) hP hD hS d_MO_run_99
            · refine lv_aload_n hx hb d_MO_run_49 rfl (lv_at hl 1 rfl) ?_
              refine lv_dup hx hb d_MO_run_50 rfl ?_
              refine va_get (D := D) (ci := 5) (v := .int (iI (z 21 0))) (C := R_MO) (T := T_MO) (N := 28) hx hb hT lays_MO hown hK hP 0 rfl rfl 10 (by decide) (hT _ tw_646) (fun _ h9 => h9) rfl d_MO_run_51 ?_
              refine cx_iconst hx hb d_MO_run_54 ?_
              refine cx_iadd hx hb d_MO_run_55 ?_
              refine va_put (D := D) (ci := 5) (v := .int (iI ((z 21 0) + 1))) (ty := .int) (C := R_MO) (T := T_MO) (N := 28) hx hb hT lays_MO t_MO t_MO_ok n_MO hown hK hP hD hS 0 rfl rfl 10 (by decide) (hT _ tw_646) (fun _ h9 => h9) rfl (by decide +kernel) rfl rfl (Nat.le_of_ble_eq_true rfl) d_MO_run_56 (fun H locs hP hD hS => ?_)
              have hP : va_P D vwCl (moW T q n (z 0) (z 1) (mkF (z 2) (z 18 0)) (cdF (z 2) (z 18 0)) (z 3) (z 4) (z 11 0) (z 12 0) (z 13 0) (z 14 0) (z 15 0) (z 16 0) (z 17 0) (z 18 0) (z 19 0) (z 20 0) ((z 21 0) + 1) (z 22 0) (y1 31 0) (y1 32 0) (y1 33 0) (y1 34 0) (y1 35 0) (y1 36 0) (y1 37) (y1 38) (y1 39)) H := hP
              have hD : va_D A (moW T q n (z 0) (z 1) (mkF (z 2) (z 18 0)) (cdF (z 2) (z 18 0)) (z 3) (z 4) (z 11 0) (z 12 0) (z 13 0) (z 14 0) (z 15 0) (z 16 0) (z 17 0) (z 18 0) (z 19 0) (z 20 0) ((z 21 0) + 1) (z 22 0) (y1 31 0) (y1 32 0) (y1 33 0) (y1 34 0) (y1 35 0) (y1 36 0) (y1 37) (y1 38) (y1 39)) := hD
              refine lv_aload_n hx hb d_MO_run_59 rfl (lv_at hl 1 rfl) ?_
              refine lv_aload_n hx hb d_MO_run_60 rfl (lv_at hl 1 rfl) ?_
              refine cx_cI (ws2 := fun (u : SX × SX) => moX T q n u.1 u.2) (cx_rV (q0 := 0) (ci := 5) (rest := [.ref (q 20)]) (As := []) hx hb hml hown hT hK hN hP hD hl.1 tw_761 k_MO_fetch (c_MO_fetch l D T H.size q n hn (up z 21 (cst ((z 21 0) + 1))) y1 (show okX (up z 21 (cst ((z 21 0) + 1))) from ⟨hZ.1, (show okR (z 11 0) (z 12 0) (z 13 0) (z 14 0) (z 15 0) (z 16 0) (z 17 0) (z 18 0) (z 19 0) (z 20 0) by have h8 := hZ.2.1; unfold okR at h8 ⊢; omega), hZ.2.2⟩)) ⟨by decide, by decide⟩ ⟨rfl, rfl⟩ [0, 1, 2, 3, 4, 5, 6, 7, 8, 9] (by decide) rfl rfl rfl rfl rfl (Nat.le_of_ble_eq_true rfl) ⟨Nat.zero_le _, Nat.zero_le _⟩ d_MO_run_61) hP hD hS hA [0, 1, 2, 3, 4, 5, 6, 7, 8, 9] [] [0, 1, 2, 3, 4, 5, 6, 7, 8, 9] rfl (wr := []) rfl (by decide) (by decide) (fun _ => rfl) (by decide) (fun r u_ H locs hq61 hP hD hS => ?_)
              rcases hq61 with ⟨f, rfl, hf1, hf2, rfl⟩ | ⟨k0, rfl, hk0, hal, hf2, rfl, hE⟩
              · have hP : va_P D vwCl (moW T q n (z 0) (z 1) (mkF (z 2) (z 18 0)) (cdF (z 2) (z 18 0)) (z 3) (z 4) (z 11 0) (z 12 0) (z 13 0) (z 14 0) (z 15 0) (z 16 0) (z 17 0) (z 18 0) (z 19 0) (z 20 0) ((z 21 0) + 1) (z 22 0) (y1 31 0) (y1 32 0) (y1 33 0) (y1 34 0) (y1 35 0) (y1 36 0) (y1 37) (y1 38) (y1 39)) H := hP
                have hD : va_D A (moW T q n (z 0) (z 1) (mkF (z 2) (z 18 0)) (cdF (z 2) (z 18 0)) (z 3) (z 4) (z 11 0) (z 12 0) (z 13 0) (z 14 0) (z 15 0) (z 16 0) (z 17 0) (z 18 0) (z 19 0) (z 20 0) ((z 21 0) + 1) (z 22 0) (y1 31 0) (y1 32 0) (y1 33 0) (y1 34 0) (y1 35 0) (y1 36 0) (y1 37) (y1 38) (y1 39)) := hD
                refine va_put (D := D) (ci := 5) (v := .int (iI (f))) (ty := .int) (C := R_MO) (T := T_MO) (N := 28) hx hb hT lays_MO t_MO t_MO_ok n_MO hown hK hP hD hS 0 rfl rfl 11 (by decide) (hT _ tw_647) (fun _ h9 => h9) rfl (by decide +kernel) rfl rfl (Nat.le_of_ble_eq_true rfl) d_MO_run_64 (fun H locs hP hD hS => ?_)
                have hP : va_P D vwCl (moW T q n (z 0) (z 1) (mkF (z 2) (z 18 0)) (cdF (z 2) (z 18 0)) (z 3) (z 4) (z 11 0) (z 12 0) (z 13 0) (z 14 0) (z 15 0) (z 16 0) (z 17 0) (z 18 0) (z 19 0) (z 20 0) ((z 21 0) + 1) f (y1 31 0) (y1 32 0) (y1 33 0) (y1 34 0) (y1 35 0) (y1 36 0) (y1 37) (y1 38) (y1 39)) H := hP
                have hD : va_D A (moW T q n (z 0) (z 1) (mkF (z 2) (z 18 0)) (cdF (z 2) (z 18 0)) (z 3) (z 4) (z 11 0) (z 12 0) (z 13 0) (z 14 0) (z 15 0) (z 16 0) (z 17 0) (z 18 0) (z 19 0) (z 20 0) ((z 21 0) + 1) f (y1 31 0) (y1 32 0) (y1 33 0) (y1 34 0) (y1 35 0) (y1 36 0) (y1 37) (y1 38) (y1 39)) := hD
                refine lv_aload_n hx hb d_MO_run_67 rfl (lv_at hl 1 rfl) ?_
                refine lv_aload_n hx hb d_MO_run_68 rfl (lv_at hl 1 rfl) ?_
                refine va_get (D := D) (ci := 5) (v := .int (iI (f))) (C := R_MO) (T := T_MO) (N := 28) hx hb hT lays_MO hown hK hP 0 rfl rfl 11 (by decide) (hT _ tw_647) (fun _ h9 => h9) rfl d_MO_run_69 ?_
                refine cx_if_ne (tgt := 82) hx hb d_MO_run_72 rfl (by omega) (fun h72 => ?_) (fun h72 => absurd h72 (by omega))
                refine lv_aload_n hx hb d_MO_run_82 rfl (lv_at hl 1 rfl) ?_
                refine va_get (D := D) (ci := 5) (v := .int (iI (f))) (C := R_MO) (T := T_MO) (N := 28) hx hb hT lays_MO hown hK hP 0 rfl rfl 11 (by decide) (hT _ tw_647) (fun _ h9 => h9) rfl d_MO_run_83 ?_
                refine va_put (D := D) (ci := 5) (v := .int (iI (f))) (ty := .int) (C := R_MO) (T := T_MO) (N := 28) hx hb hT lays_MO t_MO t_MO_ok n_MO hown hK hP hD hS 0 rfl rfl 11 (by decide) (hT _ tw_647) (fun _ h9 => h9) rfl (by decide +kernel) rfl rfl (Nat.le_of_ble_eq_true rfl) d_MO_run_86 (fun H locs hP hD hS => ?_)
                have hP : va_P D vwCl (moW T q n (z 0) (z 1) (mkF (z 2) (z 18 0)) (cdF (z 2) (z 18 0)) (z 3) (z 4) (z 11 0) (z 12 0) (z 13 0) (z 14 0) (z 15 0) (z 16 0) (z 17 0) (z 18 0) (z 19 0) (z 20 0) ((z 21 0) + 1) f (y1 31 0) (y1 32 0) (y1 33 0) (y1 34 0) (y1 35 0) (y1 36 0) (y1 37) (y1 38) (y1 39)) H := hP
                have hD : va_D A (moW T q n (z 0) (z 1) (mkF (z 2) (z 18 0)) (cdF (z 2) (z 18 0)) (z 3) (z 4) (z 11 0) (z 12 0) (z 13 0) (z 14 0) (z 15 0) (z 16 0) (z 17 0) (z 18 0) (z 19 0) (z 20 0) ((z 21 0) + 1) f (y1 31 0) (y1 32 0) (y1 33 0) (y1 34 0) (y1 35 0) (y1 36 0) (y1 37) (y1 38) (y1 39)) := hD
                refine cx_iinc (k := 0) (lv' := [(2, .int (iI (j + 1))), (0, .ref (q 20)), (1, .int (iI (v)))]) hx hb d_MO_run_89 hl rfl (by decide) rfl (fun ls hl => ?_)
                refine lv_goto (tgt := 37) hx hb d_MO_run_92 rfl ?_
                exact ih1 (j + 1) (up (up z 21 (cst (z 21 0 + 1))) 22 (cst f)) y1 _ _ _ (by omega) (show okX (up (up z 21 (cst ((z 21 0) + 1))) 22 (cst f)) from ⟨hZ.1, (show okR (z 11 0) (z 12 0) (z 13 0) (z 14 0) (z 15 0) (z 16 0) (z 17 0) (z 18 0) (z 19 0) (z 20 0) by have h8 := hZ.2.1; unfold okR at h8 ⊢; omega), hZ.2.2⟩) h31 (show 0 ≤ f ∧ f ≤ 6 by omega) (by rw [hr, rnS_s (by omega) h46]; unfold tkS; rw [hf2]) hP hD hS (lv_sub hl [0, 1, 2] rfl)
              · obtain ⟨zt, hzt⟩ : ∃ t : SX, t = takS (z 0 (z 11 0)) k0 (up z 21 (cst (z 21 0 + 1))) := ⟨_, rfl⟩
                obtain ⟨yt, hyt⟩ : ∃ t : SX, t = ftY (z 0 (z 11 0)) k0 (z 11 0) (z 12 0) (z 13 0) y1 := ⟨_, rfl⟩
                have hE : okX (takS (z 0 (z 11 0)) k0 (up z 21 (cst (z 21 0 + 1)))) := hE
                have hP : va_P D vwCl (moX T q n (takS (z 0 (z 11 0)) k0 (up z 21 (cst (z 21 0 + 1)))) (ftY (z 0 (z 11 0)) k0 (z 11 0) (z 12 0) (z 13 0) y1)) H := hP
                have hD : va_D A (moX T q n (takS (z 0 (z 11 0)) k0 (up z 21 (cst (z 21 0 + 1)))) (ftY (z 0 (z 11 0)) k0 (z 11 0) (z 12 0) (z 13 0) y1)) := hD
                rw [← hzt, ← hyt] at hP hD
                rw [← hzt] at hE
                have hf2 : stpS n (up z 21 (cst (z 21 0 + 1))) = perS n (z 0 (z 11 0)) k0 (z 12 0) (takS (z 0 (z 11 0)) k0 (up z 21 (cst (z 21 0 + 1)))) := hf2
                rw [← hzt] at hf2
                have hk0 : (1 ≤ k0 ∧ k0 ≤ 8) ∧ (0 ≤ z 11 0 ∧ z 11 0 + k0 < n) := hk0
                have hal : alP (z 0 (z 11 0)) k0 := hal
                have e22 : zt 22 0 = 0 := by rw [hzt, takS_22]; exact h46
                have e11 : zt 11 0 = z 11 0 + k0 := by rw [hzt, takS_11]; rfl
                have e31 : yt 31 = y1 31 := by rw [hyt]; rfl
                have e3 : yt 32 0 = z 0 (z 11 0) ∧ yt 33 0 = k0 ∧ yt 34 0 = z 11 0 ∧ yt 35 0 = z 12 0 ∧ yt 36 0 = z 13 0 := by rw [hyt]; exact ⟨rfl, rfl, rfl, rfl, rfl⟩
                have hY1 : (0 ≤ yt 32 0 ∧ yt 32 0 < 64) ∧ (1 ≤ yt 33 0 ∧ yt 33 0 ≤ 8) := by have h8 := hZ.1.1 (z 11 0); omega
                have hI1 : zt 11 0 = yt 34 0 + yt 33 0 ∧ 1 ≤ zt 11 0 ∧ zt 11 0 ≤ n := by omega
                have hH1 : (-1 ≤ yt 35 0 ∧ yt 35 0 ≤ 16000) ∧ (-1 ≤ yt 36 0 ∧ yt 36 0 ≤ 16000) := by have h8 := hZ.2.1; unfold okR at h8; omega
                have hV1 : (yt 32 0 = 50 → ¬ yt 33 0 = 6 ∧ ¬ yt 33 0 = 7) ∧ (yt 32 0 = 40 ∨ yt 32 0 = 56 → yt 36 0 = zt 13 0) := ⟨fun h8 => by unfold alP alv at hal; omega, fun h8 => by rw [hzt, takS_13 (by unfold alP alv at hal; omega) (by omega)]; exact e3.2.2.2.2⟩
                refine va_put (D := D) (ci := 5) (v := .int (iI (0))) (ty := .int) (C := R_MO) (T := T_MO) (N := 28) hx hb hT lays_MO t_MO t_MO_ok n_MO hown hK hP hD hS 0 rfl rfl 11 (by decide) (hT _ tw_647) (fun _ h9 => h9) rfl (by decide +kernel) rfl rfl (Nat.le_of_ble_eq_true rfl) d_MO_run_64 (fun H locs hP hD hS => ?_)
                have hP : va_P D vwCl (moW T q n (zt 0) (zt 1) (mkF (zt 2) (zt 18 0)) (cdF (zt 2) (zt 18 0)) (zt 3) (zt 4) (zt 11 0) (zt 12 0) (zt 13 0) (zt 14 0) (zt 15 0) (zt 16 0) (zt 17 0) (zt 18 0) (zt 19 0) (zt 20 0) (zt 21 0) 0 (yt 31 0) (yt 32 0) (yt 33 0) (yt 34 0) (yt 35 0) (yt 36 0) (yt 37) (yt 38) (yt 39)) H := hP
                have hD : va_D A (moW T q n (zt 0) (zt 1) (mkF (zt 2) (zt 18 0)) (cdF (zt 2) (zt 18 0)) (zt 3) (zt 4) (zt 11 0) (zt 12 0) (zt 13 0) (zt 14 0) (zt 15 0) (zt 16 0) (zt 17 0) (zt 18 0) (zt 19 0) (zt 20 0) (zt 21 0) 0 (yt 31 0) (yt 32 0) (yt 33 0) (yt 34 0) (yt 35 0) (yt 36 0) (yt 37) (yt 38) (yt 39)) := hD
                have hP : va_P D vwCl (moW T q n (zt 0) (zt 1) (mkF (zt 2) (zt 18 0)) (cdF (zt 2) (zt 18 0)) (zt 3) (zt 4) (zt 11 0) (zt 12 0) (zt 13 0) (zt 14 0) (zt 15 0) (zt 16 0) (zt 17 0) (zt 18 0) (zt 19 0) (zt 20 0) (zt 21 0) (zt 22 0) (yt 31 0) (yt 32 0) (yt 33 0) (yt 34 0) (yt 35 0) (yt 36 0) (yt 37) (yt 38) (yt 39)) H := by rw [e22]; exact hP
                have hD : va_D A (moW T q n (zt 0) (zt 1) (mkF (zt 2) (zt 18 0)) (cdF (zt 2) (zt 18 0)) (zt 3) (zt 4) (zt 11 0) (zt 12 0) (zt 13 0) (zt 14 0) (zt 15 0) (zt 16 0) (zt 17 0) (zt 18 0) (zt 19 0) (zt 20 0) (zt 21 0) (zt 22 0) (yt 31 0) (yt 32 0) (yt 33 0) (yt 34 0) (yt 35 0) (yt 36 0) (yt 37) (yt 38) (yt 39)) := by rw [e22]; exact hD
                refine lv_aload_n hx hb d_MO_run_67 rfl (lv_at hl 1 rfl) ?_
                refine lv_aload_n hx hb d_MO_run_68 rfl (lv_at hl 1 rfl) ?_
                refine va_get (D := D) (ci := 5) (v := .int (iI (zt 22 0))) (C := R_MO) (T := T_MO) (N := 28) hx hb hT lays_MO hown hK hP 0 rfl rfl 11 (by decide) (hT _ tw_647) (fun _ h9 => h9) rfl d_MO_run_69 ?_
                refine cx_if_ne (tgt := 82) hx hb d_MO_run_72 rfl (by omega) (fun h72 => absurd h72 (by omega)) (fun h72 => ?_)
                refine lv_aload_n hx hb d_MO_run_75 rfl (lv_at hl 1 rfl) ?_
                refine cx_cI (ws2 := fun (u : SX × SX) => moX T q n u.1 u.2) (cx_rV (q0 := 0) (ci := 5) (rest := [.ref (q 20)]) (As := []) hx hb hml hown hT hK hN hP hD hl.1 tw_778 k_MO_execute (c_MO_execute l D T H.size q n hn zt yt hE hY1 hI1 hH1 hV1) ⟨by decide, by decide⟩ ⟨rfl, rfl⟩ [0, 1, 2, 3, 4, 5, 6, 7, 8, 9] (by decide) rfl rfl rfl rfl rfl (Nat.le_of_ble_eq_true rfl) ⟨Nat.zero_le _, Nat.zero_le _⟩ d_MO_run_76) hP hD hS hA [0, 1, 2, 3, 4, 5, 6, 7, 8, 9] [] [0, 1, 2, 3, 4, 5, 6, 7, 8, 9] rfl (wr := []) rfl (by decide) (by decide) (fun _ => rfl) (by decide) (fun r u_ H locs hq76 hP hD hS => ?_)
                obtain ⟨⟨hr9, hu9, hE2⟩, h319, h339⟩ := hq76
                have hpe : perS n (yt 32 0) (yt 33 0) (yt 35 0) zt = stpS n (up z 21 (cst (z 21 0 + 1))) := by rw [e3.1, e3.2.1, e3.2.2.2.1, hf2]
                rw [hpe] at hr9 hu9
                subst hr9
                refine lv_goto (tgt := 86) hx hb d_MO_run_79 rfl ?_
                refine va_put (D := D) (ci := 5) (v := .int (iI ((stpS n (up z 21 (cst (z 21 0 + 1)))).1))) (ty := .int) (C := R_MO) (T := T_MO) (N := 28) hx hb hT lays_MO t_MO t_MO_ok n_MO hown hK hP hD hS 0 rfl rfl 11 (by decide) (hT _ tw_647) (fun _ h9 => h9) rfl (by decide +kernel) rfl rfl (Nat.le_of_ble_eq_true rfl) d_MO_run_86 (fun H locs hP hD hS => ?_)
                have hP : va_P D vwCl (moW T q n (u_.1 0) (u_.1 1) (mkF (u_.1 2) (u_.1 18 0)) (cdF (u_.1 2) (u_.1 18 0)) (u_.1 3) (u_.1 4) (u_.1 11 0) (u_.1 12 0) (u_.1 13 0) (u_.1 14 0) (u_.1 15 0) (u_.1 16 0) (u_.1 17 0) (u_.1 18 0) (u_.1 19 0) (u_.1 20 0) (u_.1 21 0) ((stpS n (up z 21 (cst (z 21 0 + 1)))).1) (u_.2 31 0) (u_.2 32 0) (u_.2 33 0) (u_.2 34 0) (u_.2 35 0) (u_.2 36 0) (u_.2 37) (u_.2 38) (u_.2 39)) H := hP
                have hD : va_D A (moW T q n (u_.1 0) (u_.1 1) (mkF (u_.1 2) (u_.1 18 0)) (cdF (u_.1 2) (u_.1 18 0)) (u_.1 3) (u_.1 4) (u_.1 11 0) (u_.1 12 0) (u_.1 13 0) (u_.1 14 0) (u_.1 15 0) (u_.1 16 0) (u_.1 17 0) (u_.1 18 0) (u_.1 19 0) (u_.1 20 0) (u_.1 21 0) ((stpS n (up z 21 (cst (z 21 0 + 1)))).1) (u_.2 31 0) (u_.2 32 0) (u_.2 33 0) (u_.2 34 0) (u_.2 35 0) (u_.2 36 0) (u_.2 37) (u_.2 38) (u_.2 39)) := hD
                refine cx_iinc (k := 0) (lv' := [(2, .int (iI (j + 1))), (0, .ref (q 20)), (1, .int (iI (v)))]) hx hb d_MO_run_89 hl rfl (by decide) rfl (fun ls hl => ?_)
                refine lv_goto (tgt := 37) hx hb d_MO_run_92 rfl ?_
                exact ih1 (j + 1) (up u_.1 22 (cst ((stpS n (up z 21 (cst (z 21 0 + 1)))).1))) u_.2 _ _ _ (by omega) (show okX (up u_.1 22 (cst ((stpS n (up z 21 (cst (z 21 0 + 1)))).1))) from ⟨hE2.1, (show okR (u_.1 11 0) (u_.1 12 0) (u_.1 13 0) (u_.1 14 0) (u_.1 15 0) (u_.1 16 0) (u_.1 17 0) (u_.1 18 0) (u_.1 19 0) (u_.1 20 0) by have h8 := hE2.2.1; unfold okR at h8 ⊢; omega), hE2.2.2⟩) (by rw [congrFun h319 0, congrFun e31 0]; exact h31) (rng_stp n (up z 21 (cst (z 21 0 + 1)))) (by rw [hr, rnS_s (by omega) h46]; unfold tkS; rw [hu9]) hP hD hS (lv_sub hl [0, 1, 2] rfl)
      exact L1 20001 0 (up x 22 (cst 0)) (up y 31 (cst 0)) _ _ _ (by omega) (show okX (up x 22 (cst 0)) from ⟨hX.1, hX.2.1, hX.2.2⟩) rfl (show (0 : Int) ≤ 0 ∧ (0 : Int) ≤ 6 by decide) (by rw [Int.sub_zero]) hP hD hS (lv_sub hl [0, 1, 2] rfl)
    · refine cx_iconst hx hb d_MO_run_13 ?_
      refine lv_goto (tgt := 18) hx hb d_MO_run_14 rfl ?_
      refine va_put (D := D) (ci := 5) (v := .int (iI (1))) (ty := .int) (C := R_MO) (T := T_MO) (N := 28) hx hb hT lays_MO t_MO t_MO_ok n_MO hown hK hP hD hS 0 rfl rfl 0 (by decide) (hT _ tw_636) (fun _ h9 => h9) rfl (by decide +kernel) rfl rfl (Nat.le_of_ble_eq_true rfl) d_MO_run_18 (fun H locs hP hD hS => ?_)
      have hP : va_P D vwCl (moW T q n (x 0) (x 1) (mkF (x 2) (x 18 0)) (cdF (x 2) (x 18 0)) (x 3) (x 4) (x 11 0) (x 12 0) (x 13 0) (x 14 0) (x 15 0) (x 16 0) (x 17 0) (x 18 0) (x 19 0) (x 20 0) (x 21 0) (x 22 0) 1 (y 32 0) (y 33 0) (y 34 0) (y 35 0) (y 36 0) (y 37) (y 38) (y 39)) H := hP
      have hD : va_D A (moW T q n (x 0) (x 1) (mkF (x 2) (x 18 0)) (cdF (x 2) (x 18 0)) (x 3) (x 4) (x 11 0) (x 12 0) (x 13 0) (x 14 0) (x 15 0) (x 16 0) (x 17 0) (x 18 0) (x 19 0) (x 20 0) (x 21 0) (x 22 0) 1 (y 32 0) (y 33 0) (y 34 0) (y 35 0) (y 36 0) (y 37) (y 38) (y 39)) := hD
      refine lv_aload_n hx hb d_MO_run_21 rfl (lv_at hl 0 rfl) ?_
      refine va_get (D := D) (ci := 5) (v := .int (iI (1))) (C := R_MO) (T := T_MO) (N := 28) hx hb hT lays_MO hown hK hP 0 rfl rfl 0 (by decide) (hT _ tw_636) (fun _ h9 => h9) rfl d_MO_run_22 ?_
      refine cx_if_le (tgt := 30) hx hb d_MO_run_25 rfl (by omega) (fun h0 => absurd h0 (by decide)) (fun _ => ?_)
      refine cx_iconst hx hb d_MO_run_28 ?_
      exact hret ((x, up y 31 (cst 1)) : SX × SX) (⟨pst_of (by unfold runS; rw [if_neg (by omega)]) hX, by rw [if_neg (by omega)]; rfl⟩) hP hD hS d_MO_run_29
