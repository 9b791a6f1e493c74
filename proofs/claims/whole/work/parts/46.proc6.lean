/-! the Processor's step -/
def perS (n o k y : Int) (x : SX) : Int × SX := if o = 49 then calS n 0 0 x else if o = 18 then calS n 0 1 x else if o = 58 then calS n 1 0 x else if o = 42 then calS n 1 1 x else if o = 36 then movS n x else if o = 35 then lodS n x else if o = 52 then bitS n 15 x else if o = 24 then bitS n 48 x else if o = 51 then cmpS n x else if o = 27 then mrkS n 1 x else if o = 60 then mrkS n 0 x else if o = 17 then clrS n (if k = 7 then 1 else 0) x else if o = 25 then supS n x else if o = 50 then brnS n k x else if o = 21 then bpsS n x else if o = 1 then rdcS (if k < 4 then 0 else 1) x else if o = 2 then filS 3 19 40 201 132 (if k < 4 then 0 else 1) x else if o = 4 then filS 4 20 20 101 80 (if k < 4 then 0 else 1) x else if o = 40 then staS n y x else if o = 56 then staS n (x 13 0) x else if o = 59 then (6, gof (if k = 4 then 1 else 0) x) else (0, x)
theorem takS_11 (o k : Int) (x : SX) : takS o k x 11 0 = x 11 0 + k := by
  unfold takS takB takA
  split <;> split <;> first | rfl | (split <;> rfl)
theorem ins_all {n : Int} {mk : Int → Int} {i : Int} : ∀ (f : Nat) (j : Int), 1 ≤ j → ins n mk i f j = 0 ∨ (j ≤ ins n mk i f j ∧ ins n mk i f j ≤ 8 ∧ (0 ≤ i + ins n mk i f j ∧ i + ins n mk i f j < n) ∧ mk (i + ins n mk i f j) = 1)
  | 0, j, _ => Or.inl rfl
  | f + 1, j, hj => by
    rw [ins]
    by_cases h1 : j ≤ 8 ∧ (0 ≤ i + j ∧ i + j < n)
    · rw [if_pos h1]
      by_cases h2 : mk (i + j) = 1
      · rw [if_pos h2]
        exact Or.inr ⟨by omega, by omega, by omega, h2⟩
      · rw [if_neg h2]
        rcases ins_all f (j + 1) (by omega) with h | ⟨a, b, c, d⟩
        · exact Or.inl h
        · exact Or.inr ⟨by omega, b, c, d⟩
    · rw [if_neg h1]
      exact Or.inl rfl
theorem ins_in {n : Int} {mk : Int → Int} {i k : Int} (h : k = ins n mk i 9 1) : 0 ≤ k ∧ k ≤ 8 ∧ (¬ k = 0 → 0 ≤ i + k ∧ i + k < n) := by
  rcases ins_all (n := n) (mk := mk) (i := i) 9 1 (by omega) with h1 | ⟨a, b, c, d⟩
  · rw [← h] at h1; omega
  · rw [← h] at a b c; omega
abbrev alv (o k : Int) : Prop := ((o = 49 ∨ o = 18 ∨ o = 58 ∨ o = 42 ∨ o = 36 ∨ o = 35 ∨ o = 52 ∨ o = 24 ∨ o = 51 ∨ o = 27 ∨ o = 60 ∨ o = 17 ∨ o = 25) ∧ (k = 1 ∨ k = 4 ∨ k = 7)) ∨ (o = 50 ∧ (k = 1 ∨ k = 4 ∨ k = 5 ∨ k = 8)) ∨ (o = 21 ∧ k = 8) ∨ ((o = 1 ∨ o = 2 ∨ o = 4) ∧ (k = 1 ∨ k = 2 ∨ k = 4 ∨ k = 5)) ∨ ((o = 40 ∨ o = 56) ∧ k = 4) ∨ (o = 37 ∧ (k = 1 ∨ k = 2 ∨ k = 4 ∨ k = 5 ∨ k = 7 ∨ k = 8)) ∨ (o = 59 ∧ (k = 1 ∨ k = 4))
def stpK (n : Int) (x : SX) (o k : Int) : Int × SX := if k = 0 then (3, x) else if alv o k then perS n o k (x 12 0) (takS o k x) else (3, x)
def stpS (n : Int) (x : SX) : Int × SX := if 0 ≤ x 11 0 ∧ x 11 0 < n then (if x 1 (x 11 0) = 1 then stpK n x (x 0 (x 11 0)) (ins n (x 1) (x 11 0) 9 1) else (1, x)) else (2, x)
theorem sw_perform_256 : ∀ k : Fin 64, ((k.val : Int) = 49) → tsw 449 1 60 #[356, 371, 449, 396, 449, 449, 449, 449, 449, 449, 449, 449, 449, 449, 449, 449, 324, 262, 449, 449, 351, 449, 449, 300, 340, 449, 312, 449, 449, 449, 449, 449, 449, 449, 288, 283, 449, 449, 449, 419, 449, 276, 449, 449, 449, 449, 449, 449, 255, 345, 307, 293, 449, 449, 449, 425, 449, 269, 434, 318] (k.val : Int) = 255 := by decide +kernel
theorem sw_perform_263 : ∀ k : Fin 64, ((k.val : Int) = 18) → tsw 449 1 60 #[356, 371, 449, 396, 449, 449, 449, 449, 449, 449, 449, 449, 449, 449, 449, 449, 324, 262, 449, 449, 351, 449, 449, 300, 340, 449, 312, 449, 449, 449, 449, 449, 449, 449, 288, 283, 449, 449, 449, 419, 449, 276, 449, 449, 449, 449, 449, 449, 255, 345, 307, 293, 449, 449, 449, 425, 449, 269, 434, 318] (k.val : Int) = 262 := by decide +kernel
theorem sw_perform_270 : ∀ k : Fin 64, ((k.val : Int) = 58) → tsw 449 1 60 #[356, 371, 449, 396, 449, 449, 449, 449, 449, 449, 449, 449, 449, 449, 449, 449, 324, 262, 449, 449, 351, 449, 449, 300, 340, 449, 312, 449, 449, 449, 449, 449, 449, 449, 288, 283, 449, 449, 449, 419, 449, 276, 449, 449, 449, 449, 449, 449, 255, 345, 307, 293, 449, 449, 449, 425, 449, 269, 434, 318] (k.val : Int) = 269 := by decide +kernel
theorem sw_perform_277 : ∀ k : Fin 64, ((k.val : Int) = 42) → tsw 449 1 60 #[356, 371, 449, 396, 449, 449, 449, 449, 449, 449, 449, 449, 449, 449, 449, 449, 324, 262, 449, 449, 351, 449, 449, 300, 340, 449, 312, 449, 449, 449, 449, 449, 449, 449, 288, 283, 449, 449, 449, 419, 449, 276, 449, 449, 449, 449, 449, 449, 255, 345, 307, 293, 449, 449, 449, 425, 449, 269, 434, 318] (k.val : Int) = 276 := by decide +kernel
theorem sw_perform_284 : ∀ k : Fin 64, ((k.val : Int) = 36) → tsw 449 1 60 #[356, 371, 449, 396, 449, 449, 449, 449, 449, 449, 449, 449, 449, 449, 449, 449, 324, 262, 449, 449, 351, 449, 449, 300, 340, 449, 312, 449, 449, 449, 449, 449, 449, 449, 288, 283, 449, 449, 449, 419, 449, 276, 449, 449, 449, 449, 449, 449, 255, 345, 307, 293, 449, 449, 449, 425, 449, 269, 434, 318] (k.val : Int) = 283 := by decide +kernel
theorem sw_perform_289 : ∀ k : Fin 64, ((k.val : Int) = 35) → tsw 449 1 60 #[356, 371, 449, 396, 449, 449, 449, 449, 449, 449, 449, 449, 449, 449, 449, 449, 324, 262, 449, 449, 351, 449, 449, 300, 340, 449, 312, 449, 449, 449, 449, 449, 449, 449, 288, 283, 449, 449, 449, 419, 449, 276, 449, 449, 449, 449, 449, 449, 255, 345, 307, 293, 449, 449, 449, 425, 449, 269, 434, 318] (k.val : Int) = 288 := by decide +kernel
theorem sw_perform_294 : ∀ k : Fin 64, ((k.val : Int) = 52) → tsw 449 1 60 #[356, 371, 449, 396, 449, 449, 449, 449, 449, 449, 449, 449, 449, 449, 449, 449, 324, 262, 449, 449, 351, 449, 449, 300, 340, 449, 312, 449, 449, 449, 449, 449, 449, 449, 288, 283, 449, 449, 449, 419, 449, 276, 449, 449, 449, 449, 449, 449, 255, 345, 307, 293, 449, 449, 449, 425, 449, 269, 434, 318] (k.val : Int) = 293 := by decide +kernel
theorem sw_perform_301 : ∀ k : Fin 64, ((k.val : Int) = 24) → tsw 449 1 60 #[356, 371, 449, 396, 449, 449, 449, 449, 449, 449, 449, 449, 449, 449, 449, 449, 324, 262, 449, 449, 351, 449, 449, 300, 340, 449, 312, 449, 449, 449, 449, 449, 449, 449, 288, 283, 449, 449, 449, 419, 449, 276, 449, 449, 449, 449, 449, 449, 255, 345, 307, 293, 449, 449, 449, 425, 449, 269, 434, 318] (k.val : Int) = 300 := by decide +kernel
theorem sw_perform_308 : ∀ k : Fin 64, ((k.val : Int) = 51) → tsw 449 1 60 #[356, 371, 449, 396, 449, 449, 449, 449, 449, 449, 449, 449, 449, 449, 449, 449, 324, 262, 449, 449, 351, 449, 449, 300, 340, 449, 312, 449, 449, 449, 449, 449, 449, 449, 288, 283, 449, 449, 449, 419, 449, 276, 449, 449, 449, 449, 449, 449, 255, 345, 307, 293, 449, 449, 449, 425, 449, 269, 434, 318] (k.val : Int) = 307 := by decide +kernel
theorem sw_perform_313 : ∀ k : Fin 64, ((k.val : Int) = 27) → tsw 449 1 60 #[356, 371, 449, 396, 449, 449, 449, 449, 449, 449, 449, 449, 449, 449, 449, 449, 324, 262, 449, 449, 351, 449, 449, 300, 340, 449, 312, 449, 449, 449, 449, 449, 449, 449, 288, 283, 449, 449, 449, 419, 449, 276, 449, 449, 449, 449, 449, 449, 255, 345, 307, 293, 449, 449, 449, 425, 449, 269, 434, 318] (k.val : Int) = 312 := by decide +kernel
theorem sw_perform_319 : ∀ k : Fin 64, ((k.val : Int) = 60) → tsw 449 1 60 #[356, 371, 449, 396, 449, 449, 449, 449, 449, 449, 449, 449, 449, 449, 449, 449, 324, 262, 449, 449, 351, 449, 449, 300, 340, 449, 312, 449, 449, 449, 449, 449, 449, 449, 288, 283, 449, 449, 449, 419, 449, 276, 449, 449, 449, 449, 449, 449, 255, 345, 307, 293, 449, 449, 449, 425, 449, 269, 434, 318] (k.val : Int) = 318 := by decide +kernel
theorem sw_perform_325 : ∀ k : Fin 64, ((k.val : Int) = 17) → tsw 449 1 60 #[356, 371, 449, 396, 449, 449, 449, 449, 449, 449, 449, 449, 449, 449, 449, 449, 324, 262, 449, 449, 351, 449, 449, 300, 340, 449, 312, 449, 449, 449, 449, 449, 449, 449, 288, 283, 449, 449, 449, 419, 449, 276, 449, 449, 449, 449, 449, 449, 255, 345, 307, 293, 449, 449, 449, 425, 449, 269, 434, 318] (k.val : Int) = 324 := by decide +kernel
theorem sw_perform_341 : ∀ k : Fin 64, ((k.val : Int) = 25) → tsw 449 1 60 #[356, 371, 449, 396, 449, 449, 449, 449, 449, 449, 449, 449, 449, 449, 449, 449, 324, 262, 449, 449, 351, 449, 449, 300, 340, 449, 312, 449, 449, 449, 449, 449, 449, 449, 288, 283, 449, 449, 449, 419, 449, 276, 449, 449, 449, 449, 449, 449, 255, 345, 307, 293, 449, 449, 449, 425, 449, 269, 434, 318] (k.val : Int) = 340 := by decide +kernel
theorem sw_perform_346 : ∀ k : Fin 64, ((k.val : Int) = 50) → tsw 449 1 60 #[356, 371, 449, 396, 449, 449, 449, 449, 449, 449, 449, 449, 449, 449, 449, 449, 324, 262, 449, 449, 351, 449, 449, 300, 340, 449, 312, 449, 449, 449, 449, 449, 449, 449, 288, 283, 449, 449, 449, 419, 449, 276, 449, 449, 449, 449, 449, 449, 255, 345, 307, 293, 449, 449, 449, 425, 449, 269, 434, 318] (k.val : Int) = 345 := by decide +kernel
theorem sw_perform_352 : ∀ k : Fin 64, ((k.val : Int) = 21) → tsw 449 1 60 #[356, 371, 449, 396, 449, 449, 449, 449, 449, 449, 449, 449, 449, 449, 449, 449, 324, 262, 449, 449, 351, 449, 449, 300, 340, 449, 312, 449, 449, 449, 449, 449, 449, 449, 288, 283, 449, 449, 449, 419, 449, 276, 449, 449, 449, 449, 449, 449, 255, 345, 307, 293, 449, 449, 449, 425, 449, 269, 434, 318] (k.val : Int) = 351 := by decide +kernel
theorem sw_perform_357 : ∀ k : Fin 64, ((k.val : Int) = 1) → tsw 449 1 60 #[356, 371, 449, 396, 449, 449, 449, 449, 449, 449, 449, 449, 449, 449, 449, 449, 324, 262, 449, 449, 351, 449, 449, 300, 340, 449, 312, 449, 449, 449, 449, 449, 449, 449, 288, 283, 449, 449, 449, 419, 449, 276, 449, 449, 449, 449, 449, 449, 255, 345, 307, 293, 449, 449, 449, 425, 449, 269, 434, 318] (k.val : Int) = 356 := by decide +kernel
theorem sw_perform_372 : ∀ k : Fin 64, ((k.val : Int) = 2) → tsw 449 1 60 #[356, 371, 449, 396, 449, 449, 449, 449, 449, 449, 449, 449, 449, 449, 449, 449, 324, 262, 449, 449, 351, 449, 449, 300, 340, 449, 312, 449, 449, 449, 449, 449, 449, 449, 288, 283, 449, 449, 449, 419, 449, 276, 449, 449, 449, 449, 449, 449, 255, 345, 307, 293, 449, 449, 449, 425, 449, 269, 434, 318] (k.val : Int) = 371 := by decide +kernel
theorem sw_perform_397 : ∀ k : Fin 64, ((k.val : Int) = 4) → tsw 449 1 60 #[356, 371, 449, 396, 449, 449, 449, 449, 449, 449, 449, 449, 449, 449, 449, 449, 324, 262, 449, 449, 351, 449, 449, 300, 340, 449, 312, 449, 449, 449, 449, 449, 449, 449, 288, 283, 449, 449, 449, 419, 449, 276, 449, 449, 449, 449, 449, 449, 255, 345, 307, 293, 449, 449, 449, 425, 449, 269, 434, 318] (k.val : Int) = 396 := by decide +kernel
theorem sw_perform_420 : ∀ k : Fin 64, ((k.val : Int) = 40) → tsw 449 1 60 #[356, 371, 449, 396, 449, 449, 449, 449, 449, 449, 449, 449, 449, 449, 449, 449, 324, 262, 449, 449, 351, 449, 449, 300, 340, 449, 312, 449, 449, 449, 449, 449, 449, 449, 288, 283, 449, 449, 449, 419, 449, 276, 449, 449, 449, 449, 449, 449, 255, 345, 307, 293, 449, 449, 449, 425, 449, 269, 434, 318] (k.val : Int) = 419 := by decide +kernel
theorem sw_perform_426 : ∀ k : Fin 64, ((k.val : Int) = 56) → tsw 449 1 60 #[356, 371, 449, 396, 449, 449, 449, 449, 449, 449, 449, 449, 449, 449, 449, 449, 324, 262, 449, 449, 351, 449, 449, 300, 340, 449, 312, 449, 449, 449, 449, 449, 449, 449, 288, 283, 449, 449, 449, 419, 449, 276, 449, 449, 449, 449, 449, 449, 255, 345, 307, 293, 449, 449, 449, 425, 449, 269, 434, 318] (k.val : Int) = 425 := by decide +kernel
theorem sw_perform_435 : ∀ k : Fin 64, ((k.val : Int) = 59) → tsw 449 1 60 #[356, 371, 449, 396, 449, 449, 449, 449, 449, 449, 449, 449, 449, 449, 449, 449, 324, 262, 449, 449, 351, 449, 449, 300, 340, 449, 312, 449, 449, 449, 449, 449, 449, 449, 288, 283, 449, 449, 449, 419, 449, 276, 449, 449, 449, 449, 449, 449, 255, 345, 307, 293, 449, 449, 449, 425, 449, 269, 434, 318] (k.val : Int) = 434 := by decide +kernel
theorem sw_perform_d : ∀ k : Fin 64, ¬ ((k.val : Int) = 49 ∨ (k.val : Int) = 18 ∨ (k.val : Int) = 58 ∨ (k.val : Int) = 42 ∨ (k.val : Int) = 36 ∨ (k.val : Int) = 35 ∨ (k.val : Int) = 52 ∨ (k.val : Int) = 24 ∨ (k.val : Int) = 51 ∨ (k.val : Int) = 27 ∨ (k.val : Int) = 60 ∨ (k.val : Int) = 17 ∨ (k.val : Int) = 25 ∨ (k.val : Int) = 50 ∨ (k.val : Int) = 21 ∨ (k.val : Int) = 1 ∨ (k.val : Int) = 2 ∨ (k.val : Int) = 4 ∨ (k.val : Int) = 40 ∨ (k.val : Int) = 56 ∨ (k.val : Int) = 59) → tsw 449 1 60 #[356, 371, 449, 396, 449, 449, 449, 449, 449, 449, 449, 449, 449, 449, 449, 449, 324, 262, 449, 449, 351, 449, 449, 300, 340, 449, 312, 449, 449, 449, 449, 449, 449, 449, 288, 283, 449, 449, 449, 419, 449, 276, 449, 449, 449, 449, 449, 449, 255, 345, 307, 293, 449, 449, 449, 425, 449, 269, 434, 318] (k.val : Int) = 449 := by decide +kernel
set_option maxHeartbeats 4000000 in
set_option maxRecDepth 100000 in
theorem c_PR_perform (l : Launch) (D : va_G) (T : Nat → ClassId) (sz : Nat) (q : Nat → Nat) (n : Nat) (hn : 400 ≤ n ∧ n ≤ 2000) (d : Int → Int) (x : SX) (hX : okX x) (o : Int) (ho : 0 ≤ o ∧ o < 64) (k : Int) (hk : 1 ≤ k ∧ k ≤ 8) (hI : 1 ≤ x 11 0 ∧ x 11 0 ≤ n) (y : Int) (hy : -1 ≤ y ∧ y ≤ 16000) : MI l y_PR_perform (wY y_PR_perform b_PR_perform 4 (some .int)) (rmK 4) D vwCl (tyL T) nwL sz [.ref (q 9), .int (iI (o)), .int (iI (k)), .int (iI (y))] (prW T q n d (x 0) (x 1) (x 2) (x 3) (x 4) (x 11 0) (x 12 0) (x 13 0) (x 14 0) (x 15 0) (x 16 0) (x 17 0) (x 18 0) (x 19 0) (x 20 0)) (fun r (u : SX × (Int → Int)) => pst (perS n o k y x) r u.1) (fun (u : SX × (Int → Int)) => prX T q n u.2 u.1) := by
  refine cx_inI (by decide) rfl (Nat.le_of_ble_eq_true rfl) ?_
  intro p e s m below meth cd ls A Q hx hb hml hT hown hret hP hK hD hN hS hA hl
  have hown : s.vm.findClass R_PR = some m.cls := hown
  have hl : lv_has ls 4 [(0, .ref (q 9)), (1, .int (iI (o))), (2, .int (iI (k))), (3, .int (iI (y)))] := hl
  have hC := hX.1
  have hR0 := hX.2.1
  have hF := hX.2.2
  unfold okR at hR0
  refine lv_iload_n hx hb d_PR_perform_0 rfl (lv_at hl 1 rfl) ?_
  obtain ⟨k9, hk9⟩ : ∃ k : Fin 64, o = (k.val : Int) := fin64 (by omega)
  by_cases hs256 : o = 49
  · refine cx_tsw (tgt := 256) (off := 255) hx hb d_PR_perform_1 (by omega) (by rw [hk9]; exact sw_perform_256 k9 (by omega)) rfl ?_
    subst hs256
    refine lv_aload_n hx hb d_PR_perform_256 rfl (lv_at hl 0 rfl) ?_
    refine cx_iconst hx hb d_PR_perform_257 ?_
    refine cx_iconst hx hb d_PR_perform_258 ?_
    refine cx_cI (ws2 := fun (u : SX × (Int → Int)) => prX T q n u.2 u.1) (cx_rV (q0 := 0) (ci := 2) (rest := []) (As := [.int (iI (0)), .int (iI (0))]) hx hb hml hown hT hK hN hP hD hl.1 tw_356 k_PR_calculate (c_PR_calculate00 l D T s.heap.size q n hn d x hX ) ⟨by decide, by decide⟩ ⟨rfl, rfl⟩ [0, 1, 2, 3, 4, 5, 6, 7, 8, 9, 10] (by decide) rfl rfl rfl rfl rfl (Nat.le_of_ble_eq_true rfl) ⟨Nat.zero_le _, Nat.zero_le _⟩ d_PR_perform_259) hP hD hS hA [0, 1, 2, 3, 4, 5, 6, 7, 8, 9, 10] [] [0, 1, 2, 3, 4, 5, 6, 7, 8, 9, 10] rfl (wr := []) rfl (by decide) (by decide) (fun _ => rfl) (by decide) (fun r u_ H locs hq259 hP hD hS => ?_)
    exact hret (u_ : SX × (Int → Int)) (by rw [show perS n 49 k y x = calS n 0 0 x from rfl]; exact hq259) hP hD hS d_PR_perform_262
  by_cases hs263 : o = 18
  · refine cx_tsw (tgt := 263) (off := 262) hx hb d_PR_perform_1 (by omega) (by rw [hk9]; exact sw_perform_263 k9 (by omega)) rfl ?_
    subst hs263
    refine lv_aload_n hx hb d_PR_perform_263 rfl (lv_at hl 0 rfl) ?_
    refine cx_iconst hx hb d_PR_perform_264 ?_
    refine cx_iconst hx hb d_PR_perform_265 ?_
    refine cx_cI (ws2 := fun (u : SX × (Int → Int)) => prX T q n u.2 u.1) (cx_rV (q0 := 0) (ci := 2) (rest := []) (As := [.int (iI (0)), .int (iI (1))]) hx hb hml hown hT hK hN hP hD hl.1 tw_356 k_PR_calculate (c_PR_calculate01 l D T s.heap.size q n hn d x hX ) ⟨by decide, by decide⟩ ⟨rfl, rfl⟩ [0, 1, 2, 3, 4, 5, 6, 7, 8, 9, 10] (by decide) rfl rfl rfl rfl rfl (Nat.le_of_ble_eq_true rfl) ⟨Nat.zero_le _, Nat.zero_le _⟩ d_PR_perform_266) hP hD hS hA [0, 1, 2, 3, 4, 5, 6, 7, 8, 9, 10] [] [0, 1, 2, 3, 4, 5, 6, 7, 8, 9, 10] rfl (wr := []) rfl (by decide) (by decide) (fun _ => rfl) (by decide) (fun r u_ H locs hq266 hP hD hS => ?_)
    exact hret (u_ : SX × (Int → Int)) (by rw [show perS n 18 k y x = calS n 0 1 x from rfl]; exact hq266) hP hD hS d_PR_perform_269
  by_cases hs270 : o = 58
  · refine cx_tsw (tgt := 270) (off := 269) hx hb d_PR_perform_1 (by omega) (by rw [hk9]; exact sw_perform_270 k9 (by omega)) rfl ?_
    subst hs270
    refine lv_aload_n hx hb d_PR_perform_270 rfl (lv_at hl 0 rfl) ?_
    refine cx_iconst hx hb d_PR_perform_271 ?_
    refine cx_iconst hx hb d_PR_perform_272 ?_
    refine cx_cI (ws2 := fun (u : SX × (Int → Int)) => prX T q n u.2 u.1) (cx_rV (q0 := 0) (ci := 2) (rest := []) (As := [.int (iI (1)), .int (iI (0))]) hx hb hml hown hT hK hN hP hD hl.1 tw_356 k_PR_calculate (c_PR_calculate10 l D T s.heap.size q n hn d x hX ) ⟨by decide, by decide⟩ ⟨rfl, rfl⟩ [0, 1, 2, 3, 4, 5, 6, 7, 8, 9, 10] (by decide) rfl rfl rfl rfl rfl (Nat.le_of_ble_eq_true rfl) ⟨Nat.zero_le _, Nat.zero_le _⟩ d_PR_perform_273) hP hD hS hA [0, 1, 2, 3, 4, 5, 6, 7, 8, 9, 10] [] [0, 1, 2, 3, 4, 5, 6, 7, 8, 9, 10] rfl (wr := []) rfl (by decide) (by decide) (fun _ => rfl) (by decide) (fun r u_ H locs hq273 hP hD hS => ?_)
    exact hret (u_ : SX × (Int → Int)) (by rw [show perS n 58 k y x = calS n 1 0 x from rfl]; exact hq273) hP hD hS d_PR_perform_276
  by_cases hs277 : o = 42
  · refine cx_tsw (tgt := 277) (off := 276) hx hb d_PR_perform_1 (by omega) (by rw [hk9]; exact sw_perform_277 k9 (by omega)) rfl ?_
    subst hs277
    refine lv_aload_n hx hb d_PR_perform_277 rfl (lv_at hl 0 rfl) ?_
    refine cx_iconst hx hb d_PR_perform_278 ?_
    refine cx_iconst hx hb d_PR_perform_279 ?_
    refine cx_cI (ws2 := fun (u : SX × (Int → Int)) => prX T q n u.2 u.1) (cx_rV (q0 := 0) (ci := 2) (rest := []) (As := [.int (iI (1)), .int (iI (1))]) hx hb hml hown hT hK hN hP hD hl.1 tw_356 k_PR_calculate (c_PR_calculate11 l D T s.heap.size q n hn d x hX ) ⟨by decide, by decide⟩ ⟨rfl, rfl⟩ [0, 1, 2, 3, 4, 5, 6, 7, 8, 9, 10] (by decide) rfl rfl rfl rfl rfl (Nat.le_of_ble_eq_true rfl) ⟨Nat.zero_le _, Nat.zero_le _⟩ d_PR_perform_280) hP hD hS hA [0, 1, 2, 3, 4, 5, 6, 7, 8, 9, 10] [] [0, 1, 2, 3, 4, 5, 6, 7, 8, 9, 10] rfl (wr := []) rfl (by decide) (by decide) (fun _ => rfl) (by decide) (fun r u_ H locs hq280 hP hD hS => ?_)
    exact hret (u_ : SX × (Int → Int)) (by rw [show perS n 42 k y x = calS n 1 1 x from rfl]; exact hq280) hP hD hS d_PR_perform_283
  by_cases hs284 : o = 36
  · refine cx_tsw (tgt := 284) (off := 283) hx hb d_PR_perform_1 (by omega) (by rw [hk9]; exact sw_perform_284 k9 (by omega)) rfl ?_
    subst hs284
    refine lv_aload_n hx hb d_PR_perform_284 rfl (lv_at hl 0 rfl) ?_
    refine cx_cI (ws2 := fun u => prX T q n d u) (cx_rV (q0 := 0) (ci := 2) (rest := []) (As := []) hx hb hml hown hT hK hN hP hD hl.1 tw_416 k_PR_move (c_PR_move l D T s.heap.size q n hn d x hX ) ⟨by decide, by decide⟩ ⟨rfl, rfl⟩ [0, 1, 2, 3, 4, 5, 6, 7, 8, 9, 10] (by decide) rfl rfl rfl rfl rfl (Nat.le_of_ble_eq_true rfl) ⟨Nat.zero_le _, Nat.zero_le _⟩ d_PR_perform_285) hP hD hS hA [0, 1, 2, 3, 4, 5, 6, 7, 8, 9, 10] [] [0, 1, 2, 3, 4, 5, 6, 7, 8, 9, 10] rfl (wr := []) rfl (by decide) (by decide) (fun _ => rfl) (by decide) (fun r u_ H locs hq285 hP hD hS => ?_)
    exact hret ((u_, d) : SX × (Int → Int)) (by rw [show perS n 36 k y x = movS n x from rfl]; exact hq285) hP hD hS d_PR_perform_288
  by_cases hs289 : o = 35
  · refine cx_tsw (tgt := 289) (off := 288) hx hb d_PR_perform_1 (by omega) (by rw [hk9]; exact sw_perform_289 k9 (by omega)) rfl ?_
    subst hs289
    refine lv_aload_n hx hb d_PR_perform_289 rfl (lv_at hl 0 rfl) ?_
    refine cx_cI (ws2 := fun u => prX T q n d u) (cx_rV (q0 := 0) (ci := 2) (rest := []) (As := []) hx hb hml hown hT hK hN hP hD hl.1 tw_428 k_PR_load (c_PR_load l D T s.heap.size q n hn d x hX ) ⟨by decide, by decide⟩ ⟨rfl, rfl⟩ [0, 1, 2, 3, 4, 5, 6, 7, 8, 9, 10] (by decide) rfl rfl rfl rfl rfl (Nat.le_of_ble_eq_true rfl) ⟨Nat.zero_le _, Nat.zero_le _⟩ d_PR_perform_290) hP hD hS hA [0, 1, 2, 3, 4, 5, 6, 7, 8, 9, 10] [] [0, 1, 2, 3, 4, 5, 6, 7, 8, 9, 10] rfl (wr := []) rfl (by decide) (by decide) (fun _ => rfl) (by decide) (fun r u_ H locs hq290 hP hD hS => ?_)
    exact hret ((u_, d) : SX × (Int → Int)) (by rw [show perS n 35 k y x = lodS n x from rfl]; exact hq290) hP hD hS d_PR_perform_293
  by_cases hs294 : o = 52
  · refine cx_tsw (tgt := 294) (off := 293) hx hb d_PR_perform_1 (by omega) (by rw [hk9]; exact sw_perform_294 k9 (by omega)) rfl ?_
    subst hs294
    refine lv_aload_n hx hb d_PR_perform_294 rfl (lv_at hl 0 rfl) ?_
    refine cx_bipush hx hb d_PR_perform_295 rfl ?_
    refine cx_cI (ws2 := fun u => prX T q n d u) (cx_rV (q0 := 0) (ci := 2) (rest := []) (As := [.int (iI (15))]) hx hb hml hown hT hK hN hP hD hl.1 tw_443 k_PR_moveBits (c_PR_moveBits15 l D T s.heap.size q n hn d x hX ) ⟨by decide, by decide⟩ ⟨rfl, rfl⟩ [0, 1, 2, 3, 4, 5, 6, 7, 8, 9, 10] (by decide) rfl rfl rfl rfl rfl (Nat.le_of_ble_eq_true rfl) ⟨Nat.zero_le _, Nat.zero_le _⟩ d_PR_perform_297) hP hD hS hA [0, 1, 2, 3, 4, 5, 6, 7, 8, 9, 10] [] [0, 1, 2, 3, 4, 5, 6, 7, 8, 9, 10] rfl (wr := []) rfl (by decide) (by decide) (fun _ => rfl) (by decide) (fun r u_ H locs hq297 hP hD hS => ?_)
    exact hret ((u_, d) : SX × (Int → Int)) (by rw [show perS n 52 k y x = bitS n 15 x from rfl]; exact hq297) hP hD hS d_PR_perform_300
  by_cases hs301 : o = 24
  · refine cx_tsw (tgt := 301) (off := 300) hx hb d_PR_perform_1 (by omega) (by rw [hk9]; exact sw_perform_301 k9 (by omega)) rfl ?_
    subst hs301
    refine lv_aload_n hx hb d_PR_perform_301 rfl (lv_at hl 0 rfl) ?_
    refine cx_bipush hx hb d_PR_perform_302 rfl ?_
    refine cx_cI (ws2 := fun u => prX T q n d u) (cx_rV (q0 := 0) (ci := 2) (rest := []) (As := [.int (iI (48))]) hx hb hml hown hT hK hN hP hD hl.1 tw_443 k_PR_moveBits (c_PR_moveBits48 l D T s.heap.size q n hn d x hX ) ⟨by decide, by decide⟩ ⟨rfl, rfl⟩ [0, 1, 2, 3, 4, 5, 6, 7, 8, 9, 10] (by decide) rfl rfl rfl rfl rfl (Nat.le_of_ble_eq_true rfl) ⟨Nat.zero_le _, Nat.zero_le _⟩ d_PR_perform_304) hP hD hS hA [0, 1, 2, 3, 4, 5, 6, 7, 8, 9, 10] [] [0, 1, 2, 3, 4, 5, 6, 7, 8, 9, 10] rfl (wr := []) rfl (by decide) (by decide) (fun _ => rfl) (by decide) (fun r u_ H locs hq304 hP hD hS => ?_)
    exact hret ((u_, d) : SX × (Int → Int)) (by rw [show perS n 24 k y x = bitS n 48 x from rfl]; exact hq304) hP hD hS d_PR_perform_307
  by_cases hs308 : o = 51
  · refine cx_tsw (tgt := 308) (off := 307) hx hb d_PR_perform_1 (by omega) (by rw [hk9]; exact sw_perform_308 k9 (by omega)) rfl ?_
    subst hs308
    refine lv_aload_n hx hb d_PR_perform_308 rfl (lv_at hl 0 rfl) ?_
    refine cx_cI (ws2 := fun u => prX T q n d u) (cx_rV (q0 := 0) (ci := 2) (rest := []) (As := []) hx hb hml hown hT hK hN hP hD hl.1 tw_447 k_PR_compare (c_PR_compare l D T s.heap.size q n hn d x hX ) ⟨by decide, by decide⟩ ⟨rfl, rfl⟩ [0, 1, 2, 3, 4, 5, 6, 7, 8, 9, 10] (by decide) rfl rfl rfl rfl rfl (Nat.le_of_ble_eq_true rfl) ⟨Nat.zero_le _, Nat.zero_le _⟩ d_PR_perform_309) hP hD hS hA [0, 1, 2, 3, 4, 5, 6, 7, 8, 9, 10] [] [0, 1, 2, 3, 4, 5, 6, 7, 8, 9, 10] rfl (wr := []) rfl (by decide) (by decide) (fun _ => rfl) (by decide) (fun r u_ H locs hq309 hP hD hS => ?_)
    exact hret ((u_, d) : SX × (Int → Int)) (by rw [show perS n 51 k y x = cmpS n x from rfl]; exact hq309) hP hD hS d_PR_perform_312
  by_cases hs313 : o = 27
  · refine cx_tsw (tgt := 313) (off := 312) hx hb d_PR_perform_1 (by omega) (by rw [hk9]; exact sw_perform_313 k9 (by omega)) rfl ?_
    subst hs313
    refine lv_aload_n hx hb d_PR_perform_313 rfl (lv_at hl 0 rfl) ?_
    refine cx_iconst hx hb d_PR_perform_314 ?_
    refine cx_cI (ws2 := fun u => prX T q n d u) (cx_rV (q0 := 0) (ci := 2) (rest := []) (As := [.int (iI (1))]) hx hb hml hown hT hK hN hP hD hl.1 tw_461 k_PR_changeMarks (c_PR_changeMarks l D T s.heap.size q n hn d x hX 1 (by omega)) ⟨by decide, by decide⟩ ⟨rfl, rfl⟩ [0, 1, 2, 3, 4, 5, 6, 7, 8, 9, 10] (by decide) rfl rfl rfl rfl rfl (Nat.le_of_ble_eq_true rfl) ⟨Nat.zero_le _, Nat.zero_le _⟩ d_PR_perform_315) hP hD hS hA [0, 1, 2, 3, 4, 5, 6, 7, 8, 9, 10] [] [0, 1, 2, 3, 4, 5, 6, 7, 8, 9, 10] rfl (wr := []) rfl (by decide) (by decide) (fun _ => rfl) (by decide) (fun r u_ H locs hq315 hP hD hS => ?_)
    exact hret ((u_, d) : SX × (Int → Int)) (by rw [show perS n 27 k y x = mrkS n 1 x from rfl]; exact hq315) hP hD hS d_PR_perform_318
  by_cases hs319 : o = 60
  · refine cx_tsw (tgt := 319) (off := 318) hx hb d_PR_perform_1 (by omega) (by rw [hk9]; exact sw_perform_319 k9 (by omega)) rfl ?_
    subst hs319
    refine lv_aload_n hx hb d_PR_perform_319 rfl (lv_at hl 0 rfl) ?_
    refine cx_iconst hx hb d_PR_perform_320 ?_
    refine cx_cI (ws2 := fun u => prX T q n d u) (cx_rV (q0 := 0) (ci := 2) (rest := []) (As := [.int (iI (0))]) hx hb hml hown hT hK hN hP hD hl.1 tw_461 k_PR_changeMarks (c_PR_changeMarks l D T s.heap.size q n hn d x hX 0 (by omega)) ⟨by decide, by decide⟩ ⟨rfl, rfl⟩ [0, 1, 2, 3, 4, 5, 6, 7, 8, 9, 10] (by decide) rfl rfl rfl rfl rfl (Nat.le_of_ble_eq_true rfl) ⟨Nat.zero_le _, Nat.zero_le _⟩ d_PR_perform_321) hP hD hS hA [0, 1, 2, 3, 4, 5, 6, 7, 8, 9, 10] [] [0, 1, 2, 3, 4, 5, 6, 7, 8, 9, 10] rfl (wr := []) rfl (by decide) (by decide) (fun _ => rfl) (by decide) (fun r u_ H locs hq321 hP hD hS => ?_)
    exact hret ((u_, d) : SX × (Int → Int)) (by rw [show perS n 60 k y x = mrkS n 0 x from rfl]; exact hq321) hP hD hS d_PR_perform_324
  by_cases hs325 : o = 17
  · refine cx_tsw (tgt := 325) (off := 324) hx hb d_PR_perform_1 (by omega) (by rw [hk9]; exact sw_perform_325 k9 (by omega)) rfl ?_
    subst hs325
    refine lv_aload_n hx hb d_PR_perform_325 rfl (lv_at hl 0 rfl) ?_
    refine lv_iload_n hx hb d_PR_perform_326 rfl (lv_at hl 2 rfl) ?_
    refine cx_bipush hx hb d_PR_perform_327 rfl ?_
    refine cx_icmp_ne (tgt := 336) hx hb d_PR_perform_329 rfl (by omega) (by omega) (fun h329 => ?_) (fun h329 => ?_)
    · refine cx_iconst hx hb d_PR_perform_336 ?_
      refine cx_cI (ws2 := fun u => prX T q n d u) (cx_rV (q0 := 0) (ci := 2) (rest := []) (As := [.int (iI (0))]) hx hb hml hown hT hK hN hP hD hl.1 tw_470 k_PR_clear (c_PR_clear l D T s.heap.size q n hn d x hX 0 (by omega)) ⟨by decide, by decide⟩ ⟨rfl, rfl⟩ [0, 1, 2, 3, 4, 5, 6, 7, 8, 9, 10] (by decide) rfl rfl rfl rfl rfl (Nat.le_of_ble_eq_true rfl) ⟨Nat.zero_le _, Nat.zero_le _⟩ d_PR_perform_337) hP hD hS hA [0, 1, 2, 3, 4, 5, 6, 7, 8, 9, 10] [] [0, 1, 2, 3, 4, 5, 6, 7, 8, 9, 10] rfl (wr := []) rfl (by decide) (by decide) (fun _ => rfl) (by decide) (fun r u_ H locs hq337 hP hD hS => ?_)
      exact hret ((u_, d) : SX × (Int → Int)) (by rw [show perS n 17 k y x = clrS n (if k = 7 then 1 else 0) x from rfl, if_neg h329]; exact hq337) hP hD hS d_PR_perform_340
    · refine cx_iconst hx hb d_PR_perform_332 ?_
      refine lv_goto (tgt := 337) hx hb d_PR_perform_333 rfl ?_
      refine cx_cI (ws2 := fun u => prX T q n d u) (cx_rV (q0 := 0) (ci := 2) (rest := []) (As := [.int (iI (1))]) hx hb hml hown hT hK hN hP hD hl.1 tw_470 k_PR_clear (c_PR_clear l D T s.heap.size q n hn d x hX 1 (by omega)) ⟨by decide, by decide⟩ ⟨rfl, rfl⟩ [0, 1, 2, 3, 4, 5, 6, 7, 8, 9, 10] (by decide) rfl rfl rfl rfl rfl (Nat.le_of_ble_eq_true rfl) ⟨Nat.zero_le _, Nat.zero_le _⟩ d_PR_perform_337) hP hD hS hA [0, 1, 2, 3, 4, 5, 6, 7, 8, 9, 10] [] [0, 1, 2, 3, 4, 5, 6, 7, 8, 9, 10] rfl (wr := []) rfl (by decide) (by decide) (fun _ => rfl) (by decide) (fun r u_ H locs hq337 hP hD hS => ?_)
      exact hret ((u_, d) : SX × (Int → Int)) (by rw [show perS n 17 k y x = clrS n (if k = 7 then 1 else 0) x from rfl, if_pos h329]; exact hq337) hP hD hS d_PR_perform_340
  by_cases hs341 : o = 25
  · refine cx_tsw (tgt := 341) (off := 340) hx hb d_PR_perform_1 (by omega) (by rw [hk9]; exact sw_perform_341 k9 (by omega)) rfl ?_
    subst hs341
    refine lv_aload_n hx hb d_PR_perform_341 rfl (lv_at hl 0 rfl) ?_
    refine cx_cI (ws2 := fun u => prX T q n d u) (cx_rV (q0 := 0) (ci := 2) (rest := []) (As := []) hx hb hml hown hT hK hN hP hD hl.1 tw_479 k_PR_suppressZeros (c_PR_suppressZeros l D T s.heap.size q n hn d x hX ) ⟨by decide, by decide⟩ ⟨rfl, rfl⟩ [0, 1, 2, 3, 4, 5, 6, 7, 8, 9, 10] (by decide) rfl rfl rfl rfl rfl (Nat.le_of_ble_eq_true rfl) ⟨Nat.zero_le _, Nat.zero_le _⟩ d_PR_perform_342) hP hD hS hA [0, 1, 2, 3, 4, 5, 6, 7, 8, 9, 10] [] [0, 1, 2, 3, 4, 5, 6, 7, 8, 9, 10] rfl (wr := []) rfl (by decide) (by decide) (fun _ => rfl) (by decide) (fun r u_ H locs hq342 hP hD hS => ?_)
    exact hret ((u_, d) : SX × (Int → Int)) (by rw [show perS n 25 k y x = supS n x from rfl]; exact hq342) hP hD hS d_PR_perform_345
  by_cases hs346 : o = 50
  · refine cx_tsw (tgt := 346) (off := 345) hx hb d_PR_perform_1 (by omega) (by rw [hk9]; exact sw_perform_346 k9 (by omega)) rfl ?_
    subst hs346
    refine lv_aload_n hx hb d_PR_perform_346 rfl (lv_at hl 0 rfl) ?_
    refine lv_iload_n hx hb d_PR_perform_347 rfl (lv_at hl 2 rfl) ?_
    refine cx_cI (ws2 := fun u => prX T q n d u) (cx_rV (q0 := 0) (ci := 2) (rest := []) (As := [.int (iI (k))]) hx hb hml hown hT hK hN hP hD hl.1 tw_486 k_PR_branch (c_PR_branch l D T s.heap.size q n hn d x hX k (by omega) hI) ⟨by decide, by decide⟩ ⟨rfl, rfl⟩ [0, 1, 2, 3, 4, 5, 6, 7, 8, 9, 10] (by decide) rfl rfl rfl rfl rfl (Nat.le_of_ble_eq_true rfl) ⟨Nat.zero_le _, Nat.zero_le _⟩ d_PR_perform_348) hP hD hS hA [0, 1, 2, 3, 4, 5, 6, 7, 8, 9, 10] [] [0, 1, 2, 3, 4, 5, 6, 7, 8, 9, 10] rfl (wr := []) rfl (by decide) (by decide) (fun _ => rfl) (by decide) (fun r u_ H locs hq348 hP hD hS => ?_)
    exact hret ((u_, d) : SX × (Int → Int)) (by rw [show perS n 50 k y x = brnS n k x from rfl]; exact hq348) hP hD hS d_PR_perform_351
  by_cases hs352 : o = 21
  · refine cx_tsw (tgt := 352) (off := 351) hx hb d_PR_perform_1 (by omega) (by rw [hk9]; exact sw_perform_352 k9 (by omega)) rfl ?_
    subst hs352
    refine lv_aload_n hx hb d_PR_perform_352 rfl (lv_at hl 0 rfl) ?_
    refine cx_cI (ws2 := fun u => prX T q n d u) (cx_rV (q0 := 0) (ci := 2) (rest := []) (As := []) hx hb hml hown hT hK hN hP hD hl.1 tw_502 k_PR_branchByPosition (c_PR_branchByPosition l D T s.heap.size q n hn d x hX hI) ⟨by decide, by decide⟩ ⟨rfl, rfl⟩ [0, 1, 2, 3, 4, 5, 6, 7, 8, 9, 10] (by decide) rfl rfl rfl rfl rfl (Nat.le_of_ble_eq_true rfl) ⟨Nat.zero_le _, Nat.zero_le _⟩ d_PR_perform_353) hP hD hS hA [0, 1, 2, 3, 4, 5, 6, 7, 8, 9, 10] [] [0, 1, 2, 3, 4, 5, 6, 7, 8, 9, 10] rfl (wr := []) rfl (by decide) (by decide) (fun _ => rfl) (by decide) (fun r u_ H locs hq353 hP hD hS => ?_)
    exact hret ((u_, d) : SX × (Int → Int)) (by rw [show perS n 21 k y x = bpsS n x from rfl]; exact hq353) hP hD hS d_PR_perform_356
  by_cases hs357 : o = 1
  · refine cx_tsw (tgt := 357) (off := 356) hx hb d_PR_perform_1 (by omega) (by rw [hk9]; exact sw_perform_357 k9 (by omega)) rfl ?_
    subst hs357
    refine lv_aload_n hx hb d_PR_perform_357 rfl (lv_at hl 0 rfl) ?_
    refine lv_iload_n hx hb d_PR_perform_358 rfl (lv_at hl 2 rfl) ?_
    refine cx_iconst hx hb d_PR_perform_359 ?_
    refine cx_icmp_lt (tgt := 367) hx hb d_PR_perform_360 rfl (by omega) (by omega) (fun h360 => ?_) (fun h360 => ?_)
    · refine cx_iconst hx hb d_PR_perform_367 ?_
      refine cx_cI (ws2 := fun u => prX T q n d u) (cx_rV (q0 := 0) (ci := 2) (rest := []) (As := [.int (iI (0))]) hx hb hml hown hT hK hN hP hD hl.1 tw_511 k_PR_readCard (c_PR_readCard l D T s.heap.size q n hn d x hX 0 (by omega)) ⟨by decide, by decide⟩ ⟨rfl, rfl⟩ [0, 1, 2, 3, 4, 5, 6, 7, 8, 9, 10] (by decide) rfl rfl rfl rfl rfl (Nat.le_of_ble_eq_true rfl) ⟨Nat.zero_le _, Nat.zero_le _⟩ d_PR_perform_368) hP hD hS hA [0, 1, 2, 3, 4, 5, 6, 7, 8, 9, 10] [] [0, 1, 2, 3, 4, 5, 6, 7, 8, 9, 10] rfl (wr := []) rfl (by decide) (by decide) (fun _ => rfl) (by decide) (fun r u_ H locs hq368 hP hD hS => ?_)
      exact hret ((u_, d) : SX × (Int → Int)) (by rw [show perS n 1 k y x = rdcS (if k < 4 then 0 else 1) x from rfl, if_pos h360]; exact hq368) hP hD hS d_PR_perform_371
    · refine cx_iconst hx hb d_PR_perform_363 ?_
      refine lv_goto (tgt := 368) hx hb d_PR_perform_364 rfl ?_
      refine cx_cI (ws2 := fun u => prX T q n d u) (cx_rV (q0 := 0) (ci := 2) (rest := []) (As := [.int (iI (1))]) hx hb hml hown hT hK hN hP hD hl.1 tw_511 k_PR_readCard (c_PR_readCard l D T s.heap.size q n hn d x hX 1 (by omega)) ⟨by decide, by decide⟩ ⟨rfl, rfl⟩ [0, 1, 2, 3, 4, 5, 6, 7, 8, 9, 10] (by decide) rfl rfl rfl rfl rfl (Nat.le_of_ble_eq_true rfl) ⟨Nat.zero_le _, Nat.zero_le _⟩ d_PR_perform_368) hP hD hS hA [0, 1, 2, 3, 4, 5, 6, 7, 8, 9, 10] [] [0, 1, 2, 3, 4, 5, 6, 7, 8, 9, 10] rfl (wr := []) rfl (by decide) (by decide) (fun _ => rfl) (by decide) (fun r u_ H locs hq368 hP hD hS => ?_)
      exact hret ((u_, d) : SX × (Int → Int)) (by rw [show perS n 1 k y x = rdcS (if k < 4 then 0 else 1) x from rfl, if_neg (by omega)]; exact hq368) hP hD hS d_PR_perform_371
  by_cases hs372 : o = 2
  · refine cx_tsw (tgt := 372) (off := 371) hx hb d_PR_perform_1 (by omega) (by rw [hk9]; exact sw_perform_372 k9 (by omega)) rfl ?_
    subst hs372
    refine lv_aload_n hx hb d_PR_perform_372 rfl (lv_at hl 0 rfl) ?_
    refine lv_aload_n hx hb d_PR_perform_373 rfl (lv_at hl 0 rfl) ?_
    refine va_get (D := D) (ci := 2) (v := .ref (q 5)) (C := R_PR) (T := T_PR) (N := 12) hx hb hT lays_PR hown hK hP 0 rfl rfl 2 (by decide) (hT _ tw_80) (fun _ h9 => h9) rfl d_PR_perform_374 ?_
    refine cx_sipush hx hb d_PR_perform_377 rfl ?_
    refine cx_sipush hx hb d_PR_perform_380 rfl ?_
    refine lv_iload_n hx hb d_PR_perform_383 rfl (lv_at hl 2 rfl) ?_
    refine cx_iconst hx hb d_PR_perform_384 ?_
    refine cx_icmp_lt (tgt := 392) hx hb d_PR_perform_385 rfl (by omega) (by omega) (fun h385 => ?_) (fun h385 => ?_)
    · refine cx_iconst hx hb d_PR_perform_392 ?_
      refine cx_cI (ws2 := fun u => prX T q n d u) (cx_rV (q0 := 0) (ci := 2) (rest := []) (As := [.ref (q 5), .int (iI (201)), .int (iI (132)), .int (iI (0))]) hx hb hml hown hT hK hN hP hD hl.1 tw_524 k_PR_fillRow (c_PR_fillRowL l D T s.heap.size q n hn d x hX 0 (by omega)) ⟨by decide, by decide⟩ ⟨rfl, rfl⟩ [0, 1, 2, 3, 4, 5, 6, 7, 8, 9, 10] (by decide) rfl rfl rfl rfl rfl (Nat.le_of_ble_eq_true rfl) ⟨Nat.zero_le _, Nat.zero_le _⟩ d_PR_perform_393) hP hD hS hA [0, 1, 2, 3, 4, 5, 6, 7, 8, 9, 10] [] [0, 1, 2, 3, 4, 5, 6, 7, 8, 9, 10] rfl (wr := []) rfl (by decide) (by decide) (fun _ => rfl) (by decide) (fun r u_ H locs hq393 hP hD hS => ?_)
      exact hret ((u_, d) : SX × (Int → Int)) (by rw [show perS n 2 k y x = filS 3 19 40 201 132 (if k < 4 then 0 else 1) x from rfl, if_pos h385]; exact hq393) hP hD hS d_PR_perform_396
    · refine cx_iconst hx hb d_PR_perform_388 ?_
      refine lv_goto (tgt := 393) hx hb d_PR_perform_389 rfl ?_
      refine cx_cI (ws2 := fun u => prX T q n d u) (cx_rV (q0 := 0) (ci := 2) (rest := []) (As := [.ref (q 5), .int (iI (201)), .int (iI (132)), .int (iI (1))]) hx hb hml hown hT hK hN hP hD hl.1 tw_524 k_PR_fillRow (c_PR_fillRowL l D T s.heap.size q n hn d x hX 1 (by omega)) ⟨by decide, by decide⟩ ⟨rfl, rfl⟩ [0, 1, 2, 3, 4, 5, 6, 7, 8, 9, 10] (by decide) rfl rfl rfl rfl rfl (Nat.le_of_ble_eq_true rfl) ⟨Nat.zero_le _, Nat.zero_le _⟩ d_PR_perform_393) hP hD hS hA [0, 1, 2, 3, 4, 5, 6, 7, 8, 9, 10] [] [0, 1, 2, 3, 4, 5, 6, 7, 8, 9, 10] rfl (wr := []) rfl (by decide) (by decide) (fun _ => rfl) (by decide) (fun r u_ H locs hq393 hP hD hS => ?_)
      exact hret ((u_, d) : SX × (Int → Int)) (by rw [show perS n 2 k y x = filS 3 19 40 201 132 (if k < 4 then 0 else 1) x from rfl, if_neg (by omega)]; exact hq393) hP hD hS d_PR_perform_396
  by_cases hs397 : o = 4
  · refine cx_tsw (tgt := 397) (off := 396) hx hb d_PR_perform_1 (by omega) (by rw [hk9]; exact sw_perform_397 k9 (by omega)) rfl ?_
    subst hs397
    refine lv_aload_n hx hb d_PR_perform_397 rfl (lv_at hl 0 rfl) ?_
    refine lv_aload_n hx hb d_PR_perform_398 rfl (lv_at hl 0 rfl) ?_
    refine va_get (D := D) (ci := 2) (v := .ref (q 7)) (C := R_PR) (T := T_PR) (N := 12) hx hb hT lays_PR hown hK hP 0 rfl rfl 3 (by decide) (hT _ tw_81) (fun _ h9 => h9) rfl d_PR_perform_399 ?_
    refine cx_bipush hx hb d_PR_perform_402 rfl ?_
    refine cx_bipush hx hb d_PR_perform_404 rfl ?_
    refine lv_iload_n hx hb d_PR_perform_406 rfl (lv_at hl 2 rfl) ?_
    refine cx_iconst hx hb d_PR_perform_407 ?_
    refine cx_icmp_lt (tgt := 415) hx hb d_PR_perform_408 rfl (by omega) (by omega) (fun h408 => ?_) (fun h408 => ?_)
    · refine cx_iconst hx hb d_PR_perform_415 ?_
      refine cx_cI (ws2 := fun u => prX T q n d u) (cx_rV (q0 := 0) (ci := 2) (rest := []) (As := [.ref (q 7), .int (iI (101)), .int (iI (80)), .int (iI (0))]) hx hb hml hown hT hK hN hP hD hl.1 tw_524 k_PR_fillRow (c_PR_fillRowP l D T s.heap.size q n hn d x hX 0 (by omega)) ⟨by decide, by decide⟩ ⟨rfl, rfl⟩ [0, 1, 2, 3, 4, 5, 6, 7, 8, 9, 10] (by decide) rfl rfl rfl rfl rfl (Nat.le_of_ble_eq_true rfl) ⟨Nat.zero_le _, Nat.zero_le _⟩ d_PR_perform_416) hP hD hS hA [0, 1, 2, 3, 4, 5, 6, 7, 8, 9, 10] [] [0, 1, 2, 3, 4, 5, 6, 7, 8, 9, 10] rfl (wr := []) rfl (by decide) (by decide) (fun _ => rfl) (by decide) (fun r u_ H locs hq416 hP hD hS => ?_)
      exact hret ((u_, d) : SX × (Int → Int)) (by rw [show perS n 4 k y x = filS 4 20 20 101 80 (if k < 4 then 0 else 1) x from rfl, if_pos h408]; exact hq416) hP hD hS d_PR_perform_419
    · refine cx_iconst hx hb d_PR_perform_411 ?_
      refine lv_goto (tgt := 416) hx hb d_PR_perform_412 rfl ?_
      refine cx_cI (ws2 := fun u => prX T q n d u) (cx_rV (q0 := 0) (ci := 2) (rest := []) (As := [.ref (q 7), .int (iI (101)), .int (iI (80)), .int (iI (1))]) hx hb hml hown hT hK hN hP hD hl.1 tw_524 k_PR_fillRow (c_PR_fillRowP l D T s.heap.size q n hn d x hX 1 (by omega)) ⟨by decide, by decide⟩ ⟨rfl, rfl⟩ [0, 1, 2, 3, 4, 5, 6, 7, 8, 9, 10] (by decide) rfl rfl rfl rfl rfl (Nat.le_of_ble_eq_true rfl) ⟨Nat.zero_le _, Nat.zero_le _⟩ d_PR_perform_416) hP hD hS hA [0, 1, 2, 3, 4, 5, 6, 7, 8, 9, 10] [] [0, 1, 2, 3, 4, 5, 6, 7, 8, 9, 10] rfl (wr := []) rfl (by decide) (by decide) (fun _ => rfl) (by decide) (fun r u_ H locs hq416 hP hD hS => ?_)
      exact hret ((u_, d) : SX × (Int → Int)) (by rw [show perS n 4 k y x = filS 4 20 20 101 80 (if k < 4 then 0 else 1) x from rfl, if_neg (by omega)]; exact hq416) hP hD hS d_PR_perform_419
  by_cases hs420 : o = 40
  · refine cx_tsw (tgt := 420) (off := 419) hx hb d_PR_perform_1 (by omega) (by rw [hk9]; exact sw_perform_420 k9 (by omega)) rfl ?_
    subst hs420
    refine lv_aload_n hx hb d_PR_perform_420 rfl (lv_at hl 0 rfl) ?_
    refine lv_iload_n hx hb d_PR_perform_421 rfl (lv_at hl 3 rfl) ?_
    refine cx_cI (ws2 := fun u => prX T q n d u) (cx_rV (q0 := 0) (ci := 2) (rest := []) (As := [.int (iI (y))]) hx hb hml hown hT hK hN hP hD hl.1 tw_536 k_PR_storeAddress (c_PR_storeAddress l D T s.heap.size q n hn d x hX y (by omega)) ⟨by decide, by decide⟩ ⟨rfl, rfl⟩ [0, 1, 2, 3, 4, 5, 6, 7, 8, 9, 10] (by decide) rfl rfl rfl rfl rfl (Nat.le_of_ble_eq_true rfl) ⟨Nat.zero_le _, Nat.zero_le _⟩ d_PR_perform_422) hP hD hS hA [0, 1, 2, 3, 4, 5, 6, 7, 8, 9, 10] [] [0, 1, 2, 3, 4, 5, 6, 7, 8, 9, 10] rfl (wr := []) rfl (by decide) (by decide) (fun _ => rfl) (by decide) (fun r u_ H locs hq422 hP hD hS => ?_)
    exact hret ((u_, d) : SX × (Int → Int)) (by rw [show perS n 40 k y x = staS n y x from rfl]; exact hq422) hP hD hS d_PR_perform_425
  by_cases hs426 : o = 56
  · refine cx_tsw (tgt := 426) (off := 425) hx hb d_PR_perform_1 (by omega) (by rw [hk9]; exact sw_perform_426 k9 (by omega)) rfl ?_
    subst hs426
    refine lv_aload_n hx hb d_PR_perform_426 rfl (lv_at hl 0 rfl) ?_
    refine lv_aload_n hx hb d_PR_perform_427 rfl (lv_at hl 0 rfl) ?_
    refine va_get (D := D) (ci := 2) (v := .int (iI (x 13 0))) (C := R_PR) (T := T_PR) (N := 12) hx hb hT lays_PR hown hK hP 0 rfl rfl 7 (by decide) (hT _ tw_87) (fun _ h9 => h9) rfl d_PR_perform_428 ?_
    refine cx_cI (ws2 := fun u => prX T q n d u) (cx_rV (q0 := 0) (ci := 2) (rest := []) (As := [.int (iI (x 13 0))]) hx hb hml hown hT hK hN hP hD hl.1 tw_536 k_PR_storeAddress (c_PR_storeAddress l D T s.heap.size q n hn d x hX (x 13 0) (by omega)) ⟨by decide, by decide⟩ ⟨rfl, rfl⟩ [0, 1, 2, 3, 4, 5, 6, 7, 8, 9, 10] (by decide) rfl rfl rfl rfl rfl (Nat.le_of_ble_eq_true rfl) ⟨Nat.zero_le _, Nat.zero_le _⟩ d_PR_perform_431) hP hD hS hA [0, 1, 2, 3, 4, 5, 6, 7, 8, 9, 10] [] [0, 1, 2, 3, 4, 5, 6, 7, 8, 9, 10] rfl (wr := []) rfl (by decide) (by decide) (fun _ => rfl) (by decide) (fun r u_ H locs hq431 hP hD hS => ?_)
    exact hret ((u_, d) : SX × (Int → Int)) (by rw [show perS n 56 k y x = staS n (x 13 0) x from rfl]; exact hq431) hP hD hS d_PR_perform_434
  by_cases hs435 : o = 59
  · refine cx_tsw (tgt := 435) (off := 434) hx hb d_PR_perform_1 (by omega) (by rw [hk9]; exact sw_perform_435 k9 (by omega)) rfl ?_
    subst hs435
    refine lv_aload_n hx hb d_PR_perform_435 rfl (lv_at hl 0 rfl) ?_
    refine lv_iload_n hx hb d_PR_perform_436 rfl (lv_at hl 2 rfl) ?_
    refine cx_iconst hx hb d_PR_perform_437 ?_
    refine cx_icmp_ne (tgt := 445) hx hb d_PR_perform_438 rfl (by omega) (by omega) (fun h438 => ?_) (fun h438 => ?_)
    · refine cx_iconst hx hb d_PR_perform_445 ?_
      refine cx_cI (ws2 := fun u => prX T q n d u) (cx_rV (q0 := 0) (ci := 2) (rest := []) (As := [.int (iI (0))]) hx hb hml hown hT hK hN hP hD hl.1 tw_548 k_PR_halt (c_PR_halt l D T s.heap.size q n hn d x hX 0 (by omega)) ⟨by decide, by decide⟩ ⟨rfl, rfl⟩ [0, 1, 2, 3, 4, 5, 6, 7, 8, 9, 10] (by decide) rfl rfl rfl rfl rfl (Nat.le_of_ble_eq_true rfl) ⟨Nat.zero_le _, Nat.zero_le _⟩ d_PR_perform_446) hP hD hS hA [0, 1, 2, 3, 4, 5, 6, 7, 8, 9, 10] [] [0, 1, 2, 3, 4, 5, 6, 7, 8, 9, 10] rfl (wr := []) rfl (by decide) (by decide) (fun _ => rfl) (by decide) (fun r u_ H locs hq446 hP hD hS => ?_)
      exact hret ((u_, d) : SX × (Int → Int)) (by rw [show perS n 59 k y x = (6, gof (if k = 4 then 1 else 0) x) from rfl, if_neg h438]; exact hq446) hP hD hS d_PR_perform_449
    · refine cx_iconst hx hb d_PR_perform_441 ?_
      refine lv_goto (tgt := 446) hx hb d_PR_perform_442 rfl ?_
      refine cx_cI (ws2 := fun u => prX T q n d u) (cx_rV (q0 := 0) (ci := 2) (rest := []) (As := [.int (iI (1))]) hx hb hml hown hT hK hN hP hD hl.1 tw_548 k_PR_halt (c_PR_halt l D T s.heap.size q n hn d x hX 1 (by omega)) ⟨by decide, by decide⟩ ⟨rfl, rfl⟩ [0, 1, 2, 3, 4, 5, 6, 7, 8, 9, 10] (by decide) rfl rfl rfl rfl rfl (Nat.le_of_ble_eq_true rfl) ⟨Nat.zero_le _, Nat.zero_le _⟩ d_PR_perform_446) hP hD hS hA [0, 1, 2, 3, 4, 5, 6, 7, 8, 9, 10] [] [0, 1, 2, 3, 4, 5, 6, 7, 8, 9, 10] rfl (wr := []) rfl (by decide) (by decide) (fun _ => rfl) (by decide) (fun r u_ H locs hq446 hP hD hS => ?_)
      exact hret ((u_, d) : SX × (Int → Int)) (by rw [show perS n 59 k y x = (6, gof (if k = 4 then 1 else 0) x) from rfl, if_pos h438]; exact hq446) hP hD hS d_PR_perform_449
  refine cx_tsw (tgt := 450) (off := 449) hx hb d_PR_perform_1 (by omega) (by rw [hk9]; exact sw_perform_d k9 (by omega)) rfl ?_
  refine cx_iconst hx hb d_PR_perform_450 ?_
  exact hret ((x, d) : SX × (Int → Int)) (pst_of (by unfold perS; repeat (first | rfl | (rw [if_neg (by omega)]))) hX) hP hD hS d_PR_perform_451

set_option maxHeartbeats 4000000 in
set_option maxRecDepth 100000 in
theorem c_PR_step (l : Launch) (D : va_G) (T : Nat → ClassId) (sz : Nat) (q : Nat → Nat) (n : Nat) (hn : 400 ≤ n ∧ n ≤ 2000) (d : Int → Int) (x : SX) (hX : okX x) : MI l y_PR_step (wY y_PR_step b_PR_step 4 (some .int)) (rmK 5) D vwCl (tyL T) nwL sz [.ref (q 9)] (prW T q n d (x 0) (x 1) (x 2) (x 3) (x 4) (x 11 0) (x 12 0) (x 13 0) (x 14 0) (x 15 0) (x 16 0) (x 17 0) (x 18 0) (x 19 0) (x 20 0)) (fun r (u : SX × (Int → Int)) => pst (stpS n x) r u.1) (fun (u : SX × (Int → Int)) => prX T q n u.2 u.1) := by
  refine cx_inI (by decide) rfl (Nat.le_of_ble_eq_true rfl) ?_
  intro p e s m below meth cd ls A Q hx hb hml hT hown hret hP hK hD hN hS hA hl
  have hown : s.vm.findClass R_PR = some m.cls := hown
  have hl : lv_has ls 4 [(0, .ref (q 9))] := hl
  have hC := hX.1
  have hR0 := hX.2.1
  have hF := hX.2.2
  unfold okR at hR0
  have hcI := hC.1 (x 11 0)
  refine lv_aload_n hx hb d_PR_step_0 rfl (lv_at hl 0 rfl) ?_
  refine va_get (D := D) (ci := 2) (v := .ref (q 1)) (C := R_PR) (T := T_PR) (N := 12) hx hb hT lays_PR hown hK hP 0 rfl rfl 0 (by decide) (hT _ tw_78) (fun _ h9 => h9) rfl d_PR_step_1 ?_
  refine lv_aload_n hx hb d_PR_step_4 rfl (lv_at hl 0 rfl) ?_
  refine va_get (D := D) (ci := 2) (v := .int (iI (x 11 0))) (C := R_PR) (T := T_PR) (N := 12) hx hb hT lays_PR hown hK hP 0 rfl rfl 5 (by decide) (hT _ tw_83) (fun _ h9 => h9) rfl d_PR_step_5 ?_
  refine cx_cI (ws2 := fun _ => prW T q n d (x 0) (x 1) (x 2) (x 3) (x 4) (x 11 0) (x 12 0) (x 13 0) (x 14 0) (x 15 0) (x 16 0) (x 17 0) (x 18 0) (x 19 0) (x 20 0)) (cx_rV (q0 := 9) (ci := 3) (rest := []) (As := [.int (iI (x 11 0))]) hx hb hml hown hT hK hN hP hD hl.1 tw_320 k_ST_has (c_ST_has l D T s.heap.size q n (x 0) (x 1) hn (x 11 0) (by omega)) ⟨by decide, by decide⟩ ⟨rfl, rfl⟩ [9, 10] (by decide) rfl rfl rfl rfl rfl (Nat.le_of_ble_eq_true rfl) ⟨Nat.zero_le _, Nat.zero_le _⟩ d_PR_step_8) hP hD hS hA [9, 10] [0, 1, 2, 3, 4, 5, 6, 7, 8] [0, 1, 2, 3, 4, 5, 6, 7, 8, 9, 10] rfl (wr := [(q 9, .inr (2, [.ref (q 1), .ref (q 3), .ref (q 5), .ref (q 7), .ref (q 10), .int (iI (x 11 0)), .int (iI (x 12 0)), .int (iI (x 13 0)), .int (iI (x 14 0)), .int (iI (x 15 0)), .int (iI (x 16 0)), .int (iI (x 17 0))])), (q 3, .inr (1, [.int (iI (20)), .int (iI (80)), .ref (q 4), .int (iI (x 18 0))])), (q 4, .inl (T 0, 1680, .inl (fun jj : Nat => (iF (x 2)) (jj : Int)))), (q 5, .inr (1, [.int (iI (40)), .int (iI (132)), .ref (q 6), .int (iI (x 19 0))])), (q 6, .inl (T 0, 5412, .inl (fun jj : Nat => (iF (x 3)) (jj : Int)))), (q 7, .inr (1, [.int (iI (20)), .int (iI (80)), .ref (q 8), .int (iI (x 20 0))])), (q 8, .inl (T 0, 1680, .inl (fun jj : Nat => (iF (x 4)) (jj : Int)))), (q 10, .inr (0, [.ref (q 1), .ref (q 11)])), (q 11, .inl (T 0, n, .inl (fun jj : Nat => (iF d) (jj : Int))))]) rfl (by decide) (by decide) (fun _ => rfl) (by decide) (fun r u_ H locs hq8 hP hD hS => ?_)
  rcases hq8 with ⟨rfl, h8⟩ | ⟨rfl, h8⟩
  · refine cx_if_ne (tgt := 16) hx hb d_PR_step_11 rfl (by omega) (fun _ => ?_) (fun h0 => absurd h0 (by decide))
    refine lv_aload_n hx hb d_PR_step_16 rfl (lv_at hl 0 rfl) ?_
    refine va_get (D := D) (ci := 2) (v := .ref (q 1)) (C := R_PR) (T := T_PR) (N := 12) hx hb hT lays_PR hown hK hP 0 rfl rfl 0 (by decide) (hT _ tw_78) (fun _ h9 => h9) rfl d_PR_step_17 ?_
    refine lv_aload_n hx hb d_PR_step_20 rfl (lv_at hl 0 rfl) ?_
    refine va_get (D := D) (ci := 2) (v := .int (iI (x 11 0))) (C := R_PR) (T := T_PR) (N := 12) hx hb hT lays_PR hown hK hP 0 rfl rfl 5 (by decide) (hT _ tw_83) (fun _ h9 => h9) rfl d_PR_step_21 ?_
    refine cx_cI (ws2 := fun _ => prW T q n d (x 0) (x 1) (x 2) (x 3) (x 4) (x 11 0) (x 12 0) (x 13 0) (x 14 0) (x 15 0) (x 16 0) (x 17 0) (x 18 0) (x 19 0) (x 20 0)) (cx_rV (q0 := 9) (ci := 3) (rest := []) (As := [.int (iI (x 11 0))]) hx hb hml hown hT hK hN hP hD hl.1 tw_321 k_ST_hasMark (c_ST_hasMark l D T H.size q n (x 0) (x 1) hn hC (x 11 0) (by omega)) ⟨by decide, by decide⟩ ⟨rfl, rfl⟩ [9, 10] (by decide) rfl rfl rfl rfl rfl (Nat.le_of_ble_eq_true rfl) ⟨Nat.zero_le _, Nat.zero_le _⟩ d_PR_step_24) hP hD hS hA [9, 10] [0, 1, 2, 3, 4, 5, 6, 7, 8] [0, 1, 2, 3, 4, 5, 6, 7, 8, 9, 10] rfl (wr := [(q 9, .inr (2, [.ref (q 1), .ref (q 3), .ref (q 5), .ref (q 7), .ref (q 10), .int (iI (x 11 0)), .int (iI (x 12 0)), .int (iI (x 13 0)), .int (iI (x 14 0)), .int (iI (x 15 0)), .int (iI (x 16 0)), .int (iI (x 17 0))])), (q 3, .inr (1, [.int (iI (20)), .int (iI (80)), .ref (q 4), .int (iI (x 18 0))])), (q 4, .inl (T 0, 1680, .inl (fun jj : Nat => (iF (x 2)) (jj : Int)))), (q 5, .inr (1, [.int (iI (40)), .int (iI (132)), .ref (q 6), .int (iI (x 19 0))])), (q 6, .inl (T 0, 5412, .inl (fun jj : Nat => (iF (x 3)) (jj : Int)))), (q 7, .inr (1, [.int (iI (20)), .int (iI (80)), .ref (q 8), .int (iI (x 20 0))])), (q 8, .inl (T 0, 1680, .inl (fun jj : Nat => (iF (x 4)) (jj : Int)))), (q 10, .inr (0, [.ref (q 1), .ref (q 11)])), (q 11, .inl (T 0, n, .inl (fun jj : Nat => (iF d) (jj : Int))))]) rfl (by decide) (by decide) (fun _ => rfl) (by decide) (fun r u_ H locs hq24 hP hD hS => ?_)
    rcases hq24 with ⟨rfl, h24⟩ | ⟨rfl, h24⟩
    · refine cx_if_ne (tgt := 32) hx hb d_PR_step_27 rfl (by omega) (fun _ => ?_) (fun h0 => absurd h0 (by decide))
      refine lv_aload_n hx hb d_PR_step_32 rfl (lv_at hl 0 rfl) ?_
      refine va_get (D := D) (ci := 2) (v := .ref (q 1)) (C := R_PR) (T := T_PR) (N := 12) hx hb hT lays_PR hown hK hP 0 rfl rfl 0 (by decide) (hT _ tw_78) (fun _ h9 => h9) rfl d_PR_step_33 ?_
      refine lv_aload_n hx hb d_PR_step_36 rfl (lv_at hl 0 rfl) ?_
      refine va_get (D := D) (ci := 2) (v := .int (iI (x 11 0))) (C := R_PR) (T := T_PR) (N := 12) hx hb hT lays_PR hown hK hP 0 rfl rfl 5 (by decide) (hT _ tw_83) (fun _ h9 => h9) rfl d_PR_step_37 ?_
      refine cx_cI (ws2 := fun _ => prW T q n d (x 0) (x 1) (x 2) (x 3) (x 4) (x 11 0) (x 12 0) (x 13 0) (x 14 0) (x 15 0) (x 16 0) (x 17 0) (x 18 0) (x 19 0) (x 20 0)) (cx_rV (q0 := 9) (ci := 3) (rest := []) (As := [.int (iI (x 11 0))]) hx hb hml hown hT hK hN hP hD hl.1 tw_322 k_ST_character (c_ST_character l D T H.size q n (x 0) (x 1) hn hC (x 11 0) (by omega)) ⟨by decide, by decide⟩ ⟨rfl, rfl⟩ [9, 10] (by decide) rfl rfl rfl rfl rfl (Nat.le_of_ble_eq_true rfl) ⟨Nat.zero_le _, Nat.zero_le _⟩ d_PR_step_40) hP hD hS hA [9, 10] [0, 1, 2, 3, 4, 5, 6, 7, 8] [0, 1, 2, 3, 4, 5, 6, 7, 8, 9, 10] rfl (wr := [(q 9, .inr (2, [.ref (q 1), .ref (q 3), .ref (q 5), .ref (q 7), .ref (q 10), .int (iI (x 11 0)), .int (iI (x 12 0)), .int (iI (x 13 0)), .int (iI (x 14 0)), .int (iI (x 15 0)), .int (iI (x 16 0)), .int (iI (x 17 0))])), (q 3, .inr (1, [.int (iI (20)), .int (iI (80)), .ref (q 4), .int (iI (x 18 0))])), (q 4, .inl (T 0, 1680, .inl (fun jj : Nat => (iF (x 2)) (jj : Int)))), (q 5, .inr (1, [.int (iI (40)), .int (iI (132)), .ref (q 6), .int (iI (x 19 0))])), (q 6, .inl (T 0, 5412, .inl (fun jj : Nat => (iF (x 3)) (jj : Int)))), (q 7, .inr (1, [.int (iI (20)), .int (iI (80)), .ref (q 8), .int (iI (x 20 0))])), (q 8, .inl (T 0, 1680, .inl (fun jj : Nat => (iF (x 4)) (jj : Int)))), (q 10, .inr (0, [.ref (q 1), .ref (q 11)])), (q 11, .inl (T 0, n, .inl (fun jj : Nat => (iF d) (jj : Int))))]) rfl (by decide) (by decide) (fun _ => rfl) (by decide) (fun r u_ H locs hq40 hP hD hS => ?_)
      subst hq40
      refine lv_istore_n (lv' := [(1, .int (iI ((x 0) (x 11 0)))), (0, .ref (q 9))]) hx hb d_PR_step_43 rfl hl (by decide) rfl (fun ls hl => ?_)
      refine lv_aload_n hx hb d_PR_step_44 rfl (lv_at hl 1 rfl) ?_
      refine cx_cI (ws2 := fun _ => prW T q n d (x 0) (x 1) (x 2) (x 3) (x 4) (x 11 0) (x 12 0) (x 13 0) (x 14 0) (x 15 0) (x 16 0) (x 17 0) (x 18 0) (x 19 0) (x 20 0)) (cx_rV (q0 := 0) (ci := 2) (rest := []) (As := []) hx hb hml hown hT hK hN hP hD hl.1 tw_326 k_PR_instructionLength (c_PR_instructionLength l D T H.size q n hn d x hX ) ⟨by decide, by decide⟩ ⟨rfl, rfl⟩ [0, 1, 2, 3, 4, 5, 6, 7, 8, 9, 10] (by decide) rfl rfl rfl rfl rfl (Nat.le_of_ble_eq_true rfl) ⟨Nat.zero_le _, Nat.zero_le _⟩ d_PR_step_45) hP hD hS hA [0, 1, 2, 3, 4, 5, 6, 7, 8, 9, 10] [] [0, 1, 2, 3, 4, 5, 6, 7, 8, 9, 10] rfl (wr := []) rfl (by decide) (by decide) (fun _ => rfl) (by decide) (fun r u_ H locs hq45 hP hD hS => ?_)
      subst hq45
      refine lv_istore_n (lv' := [(2, .int (iI (flr (ins n (x 1) (x 11 0) 9 1)))), (1, .int (iI ((x 0) (x 11 0)))), (0, .ref (q 9))]) hx hb d_PR_step_48 rfl hl (by decide) rfl (fun ls hl => ?_)
      obtain ⟨k, hk⟩ : ∃ z, z = ins n (x 1) (x 11 0) 9 1 := ⟨_, rfl⟩
      rw [← hk] at hl
      have hk1 := ins_in hk
      by_cases hk0 : k = 0
      · rw [(flr_in k (by omega)).1 hk0] at hl
        refine lv_iload_n hx hb d_PR_step_49 rfl (lv_at hl 1 rfl) ?_
        refine lv_iload_n hx hb d_PR_step_50 rfl (lv_at hl 0 rfl) ?_
        refine cx_cI (ws2 := fun _ => prW T q n d (x 0) (x 1) (x 2) (x 3) (x 4) (x 11 0) (x 12 0) (x 13 0) (x 14 0) (x 15 0) (x 16 0) (x 17 0) (x 18 0) (x 19 0) (x 20 0)) (cx_rS (rest := []) (As := [.int (iI ((x 0) (x 11 0))), .int (iI (-1))]) hx hb hml hown hT hK hN hP hD hl.1 tw_330 k_PR_allows (c_PR_allows l D T H.size ((x 0) (x 11 0)) (by omega) (-1) (by omega)) ⟨by decide, by decide⟩ ⟨rfl, rfl⟩ [] (by decide) rfl rfl rfl (Nat.le_of_ble_eq_true rfl) ⟨Nat.zero_le _, Nat.zero_le _⟩ d_PR_step_51) hP hD hS hA [] [0, 1, 2, 3, 4, 5, 6, 7, 8, 9, 10] [0, 1, 2, 3, 4, 5, 6, 7, 8, 9, 10] rfl (wr := [(q 9, .inr (2, [.ref (q 1), .ref (q 3), .ref (q 5), .ref (q 7), .ref (q 10), .int (iI (x 11 0)), .int (iI (x 12 0)), .int (iI (x 13 0)), .int (iI (x 14 0)), .int (iI (x 15 0)), .int (iI (x 16 0)), .int (iI (x 17 0))])), (q 3, .inr (1, [.int (iI (20)), .int (iI (80)), .ref (q 4), .int (iI (x 18 0))])), (q 4, .inl (T 0, 1680, .inl (fun jj : Nat => (iF (x 2)) (jj : Int)))), (q 5, .inr (1, [.int (iI (40)), .int (iI (132)), .ref (q 6), .int (iI (x 19 0))])), (q 6, .inl (T 0, 5412, .inl (fun jj : Nat => (iF (x 3)) (jj : Int)))), (q 7, .inr (1, [.int (iI (20)), .int (iI (80)), .ref (q 8), .int (iI (x 20 0))])), (q 8, .inl (T 0, 1680, .inl (fun jj : Nat => (iF (x 4)) (jj : Int)))), (q 10, .inr (0, [.ref (q 1), .ref (q 11)])), (q 11, .inl (T 0, n, .inl (fun jj : Nat => (iF d) (jj : Int)))), (q 1, .inr (3, [.ref (q 2)])), (q 2, .inl (T 0, n, .inl (fun jj : Nat => (ceF (x 0) (x 1)) (jj : Int))))]) rfl (by decide) (by decide) (fun _ => rfl) (by decide) (fun r u_ H locs hq51 hP hD hS => ?_)
        rcases hq51 with ⟨rfl, h51⟩ | ⟨rfl, h51⟩
        · refine cx_if_ne (tgt := 59) hx hb d_PR_step_54 rfl (by omega) (fun _ => ?_) (fun h0 => absurd h0 (by decide))
          exact absurd h51 (by unfold alw; omega)
        · refine cx_if_ne (tgt := 59) hx hb d_PR_step_54 rfl (by omega) (fun h0 => absurd h0 (by decide)) (fun _ => ?_)
          refine cx_iconst hx hb d_PR_step_57 ?_
          exact hret ((x, d) : SX × (Int → Int)) (pst_of (by unfold stpS; rw [if_pos h8, if_pos h24, ← hk]; unfold stpK; rw [if_pos hk0]) hX) hP hD hS d_PR_step_58
      · rw [(flr_in k (by omega)).2 hk0] at hl
        refine lv_iload_n hx hb d_PR_step_49 rfl (lv_at hl 1 rfl) ?_
        refine lv_iload_n hx hb d_PR_step_50 rfl (lv_at hl 0 rfl) ?_
        refine cx_cI (ws2 := fun _ => prW T q n d (x 0) (x 1) (x 2) (x 3) (x 4) (x 11 0) (x 12 0) (x 13 0) (x 14 0) (x 15 0) (x 16 0) (x 17 0) (x 18 0) (x 19 0) (x 20 0)) (cx_rS (rest := []) (As := [.int (iI ((x 0) (x 11 0))), .int (iI (k))]) hx hb hml hown hT hK hN hP hD hl.1 tw_330 k_PR_allows (c_PR_allows l D T H.size ((x 0) (x 11 0)) (by omega) k (by omega)) ⟨by decide, by decide⟩ ⟨rfl, rfl⟩ [] (by decide) rfl rfl rfl (Nat.le_of_ble_eq_true rfl) ⟨Nat.zero_le _, Nat.zero_le _⟩ d_PR_step_51) hP hD hS hA [] [0, 1, 2, 3, 4, 5, 6, 7, 8, 9, 10] [0, 1, 2, 3, 4, 5, 6, 7, 8, 9, 10] rfl (wr := [(q 9, .inr (2, [.ref (q 1), .ref (q 3), .ref (q 5), .ref (q 7), .ref (q 10), .int (iI (x 11 0)), .int (iI (x 12 0)), .int (iI (x 13 0)), .int (iI (x 14 0)), .int (iI (x 15 0)), .int (iI (x 16 0)), .int (iI (x 17 0))])), (q 3, .inr (1, [.int (iI (20)), .int (iI (80)), .ref (q 4), .int (iI (x 18 0))])), (q 4, .inl (T 0, 1680, .inl (fun jj : Nat => (iF (x 2)) (jj : Int)))), (q 5, .inr (1, [.int (iI (40)), .int (iI (132)), .ref (q 6), .int (iI (x 19 0))])), (q 6, .inl (T 0, 5412, .inl (fun jj : Nat => (iF (x 3)) (jj : Int)))), (q 7, .inr (1, [.int (iI (20)), .int (iI (80)), .ref (q 8), .int (iI (x 20 0))])), (q 8, .inl (T 0, 1680, .inl (fun jj : Nat => (iF (x 4)) (jj : Int)))), (q 10, .inr (0, [.ref (q 1), .ref (q 11)])), (q 11, .inl (T 0, n, .inl (fun jj : Nat => (iF d) (jj : Int)))), (q 1, .inr (3, [.ref (q 2)])), (q 2, .inl (T 0, n, .inl (fun jj : Nat => (ceF (x 0) (x 1)) (jj : Int))))]) rfl (by decide) (by decide) (fun _ => rfl) (by decide) (fun r u_ H locs hq51 hP hD hS => ?_)
        rcases hq51 with ⟨rfl, h51⟩ | ⟨rfl, h51⟩
        · refine cx_if_ne (tgt := 59) hx hb d_PR_step_54 rfl (by omega) (fun _ => ?_) (fun h0 => absurd h0 (by decide))
          refine lv_aload_n hx hb d_PR_step_59 rfl (lv_at hl 2 rfl) ?_
          refine va_get (D := D) (ci := 2) (v := .int (iI (x 12 0))) (C := R_PR) (T := T_PR) (N := 12) hx hb hT lays_PR hown hK hP 0 rfl rfl 6 (by decide) (hT _ tw_85) (fun _ h9 => h9) rfl d_PR_step_60 ?_
          refine lv_istore_n (lv' := [(3, .int (iI (x 12 0))), (2, .int (iI (k))), (1, .int (iI ((x 0) (x 11 0)))), (0, .ref (q 9))]) hx hb d_PR_step_63 rfl hl (by decide) rfl (fun ls hl => ?_)
          refine lv_aload_n hx hb d_PR_step_64 rfl (lv_at hl 3 rfl) ?_
          refine lv_iload_n hx hb d_PR_step_65 rfl (lv_at hl 2 rfl) ?_
          refine lv_iload_n hx hb d_PR_step_66 rfl (lv_at hl 1 rfl) ?_
          refine cx_cV (ws2 := fun u => prX T q n d u) (cx_rV (q0 := 0) (ci := 2) (rest := []) (As := [.int (iI ((x 0) (x 11 0))), .int (iI (k))]) hx hb hml hown hT hK hN hP hD hl.1 tw_333 k_PR_takeAddresses (c_PR_takeAddresses l D T H.size q n hn d x hX ((x 0) (x 11 0)) (by omega) k (by omega) (by omega)) ⟨by decide, by decide⟩ ⟨rfl, rfl⟩ [0, 1, 2, 3, 4, 5, 6, 7, 8, 9, 10] (by decide) rfl rfl rfl rfl rfl (Nat.le_of_ble_eq_true rfl) ⟨Nat.zero_le _, Nat.zero_le _⟩ d_PR_step_67) hP hD hS hA [0, 1, 2, 3, 4, 5, 6, 7, 8, 9, 10] [] [0, 1, 2, 3, 4, 5, 6, 7, 8, 9, 10] rfl (wr := []) rfl (by decide) (by decide) (fun _ => rfl) (by decide) (fun u_ H locs hq67 hP hD hS => ?_)
          obtain ⟨rfl, hE⟩ := hq67
          have e11 : (takS ((x 0) (x 11 0)) k x) 11 0 = x 11 0 + k := takS_11 _ _ _
          refine lv_aload_n hx hb d_PR_step_70 rfl (lv_at hl 3 rfl) ?_
          refine lv_iload_n hx hb d_PR_step_71 rfl (lv_at hl 2 rfl) ?_
          refine lv_iload_n hx hb d_PR_step_72 rfl (lv_at hl 1 rfl) ?_
          refine lv_iload_n hx hb d_PR_step_73 rfl (lv_at hl 0 rfl) ?_
          refine cx_cI (ws2 := fun (u : SX × (Int → Int)) => prX T q n u.2 u.1) (cx_rV (q0 := 0) (ci := 2) (rest := []) (As := [.int (iI ((x 0) (x 11 0))), .int (iI (k)), .int (iI (x 12 0))]) hx hb hml hown hT hK hN hP hD hl.1 tw_352 k_PR_perform (c_PR_perform l D T H.size q n hn d ((takS ((x 0) (x 11 0)) k x)) hE ((x 0) (x 11 0)) (by omega) k (by omega) (by omega) (x 12 0) (by omega)) ⟨by decide, by decide⟩ ⟨rfl, rfl⟩ [0, 1, 2, 3, 4, 5, 6, 7, 8, 9, 10] (by decide) rfl rfl rfl rfl rfl (Nat.le_of_ble_eq_true rfl) ⟨Nat.zero_le _, Nat.zero_le _⟩ d_PR_step_74) hP hD hS hA [0, 1, 2, 3, 4, 5, 6, 7, 8, 9, 10] [] [0, 1, 2, 3, 4, 5, 6, 7, 8, 9, 10] rfl (wr := []) rfl (by decide) (by decide) (fun _ => rfl) (by decide) (fun r u_ H locs hq74 hP hD hS => ?_)
          exact hret (u_ : SX × (Int → Int)) (by unfold stpS; rw [if_pos h8, if_pos h24, ← hk]; unfold stpK; rw [if_neg hk0, if_pos (show alv _ _ from h51)]; exact hq74) hP hD hS d_PR_step_77
        · refine cx_if_ne (tgt := 59) hx hb d_PR_step_54 rfl (by omega) (fun h0 => absurd h0 (by decide)) (fun _ => ?_)
          refine cx_iconst hx hb d_PR_step_57 ?_
          exact hret ((x, d) : SX × (Int → Int)) (pst_of (by unfold stpS; rw [if_pos h8, if_pos h24, ← hk]; unfold stpK; rw [if_neg hk0, if_neg (show ¬ alv _ _ from h51)]) hX) hP hD hS d_PR_step_58
    · refine cx_if_ne (tgt := 32) hx hb d_PR_step_27 rfl (by omega) (fun h0 => absurd h0 (by decide)) (fun _ => ?_)
      refine cx_iconst hx hb d_PR_step_30 ?_
      exact hret ((x, d) : SX × (Int → Int)) (pst_of (by unfold stpS; rw [if_pos h8, if_neg (by omega)]) hX) hP hD hS d_PR_step_31
  · refine cx_if_ne (tgt := 16) hx hb d_PR_step_11 rfl (by omega) (fun h0 => absurd h0 (by decide)) (fun _ => ?_)
    refine cx_iconst hx hb d_PR_step_14 ?_
    exact hret ((x, d) : SX × (Int → Int)) (pst_of (by unfold stpS; rw [if_neg h8]) hX) hP hD hS d_PR_step_15
