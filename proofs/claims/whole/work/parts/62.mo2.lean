/-! the reference: moves, marks, reads -/
theorem spa_z (f : Int → Int) (b : Int) (F : Int → Int) : spa f b (b - b) F = f := by rw [Int.sub_self]; exact spa_0 f b F
theorem spa_zs {f : Int → Int} {b z : Int} (h : b ≤ z) : fu (spa f b (z - b) (cst 0)) z 0 = spa f b (z + 1 - b) (cst 0) := spa_step (F := cst 0) (by omega) (by omega) (by omega) rfl
theorem spa_spn {f : Int → Int} {b z : Int} (h : z = b + 1) : spa f (b / 100 * 100) (z - b / 100 * 100) (cst 0) = spn f b (b % 100 + 1) (cst 0) := by
  funext j
  unfold spa spn
  by_cases h1 : b / 100 * 100 ≤ j ∧ j < b / 100 * 100 + (z - b / 100 * 100)
  · rw [if_pos h1, if_pos (by omega)]
  · rw [if_neg h1, if_neg (by omega)]
theorem cd_next {cf : Int → Int} {c : Int} (h : okF cf c) : spa (cdF cf c) (80 * c) 80 (fun k => cf (80 * c + k)) = cdF cf (c + 1) := by
  funext j
  unfold spa cdF
  by_cases h1 : 80 * c ≤ j ∧ j < 80 * c + 80
  · rw [if_pos h1, if_pos (by omega)]
    show cf (80 * c + (j - 80 * c)) = cf j
    congr 1; omega
  · rw [if_neg h1]
    by_cases h2 : j < 80 * c
    · rw [if_pos h2, if_pos (by omega)]
    · rw [if_neg h2, if_neg (by omega)]
theorem mk_next {cf : Int → Int} {c : Int} (h : okF cf c) : spa (mkF cf c) 0 80 (cst 0) = mkF cf (c + 1) := by
  funext j
  unfold spa mkF
  by_cases h1 : 0 ≤ j ∧ j < 0 + 80
  · rw [if_pos h1, if_pos h1.1, h.2 _ (by omega)]
  · rw [if_neg h1]
    by_cases h2 : 0 ≤ j
    · rw [if_pos h2, if_pos h2, h.2 _ (by omega), h.2 _ (by omega)]
    · rw [if_neg h2, if_neg h2]
theorem okF_next {cf : Int → Int} {c : Int} (h : okF cf c) : okF cf (c + 1) := ⟨h.1, fun j hj => h.2 j (by omega)⟩
theorem sw_mstate_56 : ∀ k : Fin 64, ((k.val : Int) = 0) → tsw 111 0 8 #[50, 55, 60, 65, 70, 83, 96, 101, 106] (k.val : Int) = 50 := by decide +kernel
theorem sw_mstate_61 : ∀ k : Fin 64, ((k.val : Int) = 1) → tsw 111 0 8 #[50, 55, 60, 65, 70, 83, 96, 101, 106] (k.val : Int) = 55 := by decide +kernel
theorem sw_mstate_66 : ∀ k : Fin 64, ((k.val : Int) = 2) → tsw 111 0 8 #[50, 55, 60, 65, 70, 83, 96, 101, 106] (k.val : Int) = 60 := by decide +kernel
theorem sw_mstate_71 : ∀ k : Fin 64, ((k.val : Int) = 3) → tsw 111 0 8 #[50, 55, 60, 65, 70, 83, 96, 101, 106] (k.val : Int) = 65 := by decide +kernel
theorem sw_mstate_76 : ∀ k : Fin 64, ((k.val : Int) = 4) → tsw 111 0 8 #[50, 55, 60, 65, 70, 83, 96, 101, 106] (k.val : Int) = 70 := by decide +kernel
theorem sw_mstate_89 : ∀ k : Fin 64, ((k.val : Int) = 5) → tsw 111 0 8 #[50, 55, 60, 65, 70, 83, 96, 101, 106] (k.val : Int) = 83 := by decide +kernel
theorem sw_mstate_102 : ∀ k : Fin 64, ((k.val : Int) = 6) → tsw 111 0 8 #[50, 55, 60, 65, 70, 83, 96, 101, 106] (k.val : Int) = 96 := by decide +kernel
theorem sw_mstate_107 : ∀ k : Fin 64, ((k.val : Int) = 7) → tsw 111 0 8 #[50, 55, 60, 65, 70, 83, 96, 101, 106] (k.val : Int) = 101 := by decide +kernel
theorem sw_mstate_112 : ∀ k : Fin 64, ((k.val : Int) = 8) → tsw 111 0 8 #[50, 55, 60, 65, 70, 83, 96, 101, 106] (k.val : Int) = 106 := by decide +kernel
theorem sw_mstate_d : ∀ k : Fin 64, ¬ ((k.val : Int) = 0 ∨ (k.val : Int) = 1 ∨ (k.val : Int) = 2 ∨ (k.val : Int) = 3 ∨ (k.val : Int) = 4 ∨ (k.val : Int) = 5 ∨ (k.val : Int) = 6 ∨ (k.val : Int) = 7 ∨ (k.val : Int) = 8) → tsw 111 0 8 #[50, 55, 60, 65, 70, 83, 96, 101, 106] (k.val : Int) = 111 := by decide +kernel
set_option maxHeartbeats 4000000 in
set_option maxRecDepth 100000 in
theorem c_MO_both (l : Launch) (D : va_G) (T : Nat → ClassId) (sz : Nat) (q : Nat → Nat) (n : Nat) (hn : 400 ≤ n ∧ n ≤ 2000) (x y : SX) (hX : okX x) : MI l y_MO_both (wY y_MO_both b_MO_both 3 (some .int)) (rmK 1) D vwCl (tyL T) nwL sz [.ref (q 20)] (moW T q n (x 0) (x 1) (mkF (x 2) (x 18 0)) (cdF (x 2) (x 18 0)) (x 3) (x 4) (x 11 0) (x 12 0) (x 13 0) (x 14 0) (x 15 0) (x 16 0) (x 17 0) (x 18 0) (x 19 0) (x 20 0) (x 21 0) (x 22 0) (y 31 0) (y 32 0) (y 33 0) (y 34 0) (y 35 0) (y 36 0) (y 37) (y 38) (y 39)) (fun r (_ : Unit) => r = iI (cmn n (x 1) (x 12 0) (x 13 0) 2001 1)) (fun _ => moX T q n x y) := by
  refine cx_inI (by decide) rfl (Nat.le_of_ble_eq_true rfl) ?_
  intro p e s m below meth cd ls A Q hx hb hml hT hown hret hP hK hD hN hS hA hl
  have hown : s.vm.findClass R_MO = some m.cls := hown
  have hl : lv_has ls 3 [(0, .ref (q 20))] := hl
  have hC := hX.1
  have hR0 := hX.2.1
  have hF := hX.2.2
  unfold okR at hR0
  refine cx_iconst hx hb d_MO_both_0 ?_
  refine lv_istore_n (lv' := [(1, .int (iI (0))), (0, .ref (q 20))]) hx hb d_MO_both_1 rfl hl (by decide) rfl (fun ls hl => ?_)
  refine cx_iconst hx hb d_MO_both_2 ?_
  refine lv_istore_n (lv' := [(2, .int (iI (1))), (1, .int (iI (0))), (0, .ref (q 20))]) hx hb d_MO_both_3 rfl hl (by decide) rfl (fun ls hl => ?_)
  have L1 : ∀ (k_ : Nat) (j : Int) (H : Heap) (locs : List Loc) (ls : Array Slot), (0 ≤ j ∧ (0 < j → (x 12 0 < n ∧ j ≤ x 12 0 + 1) ∧ (x 13 0 < n ∧ j ≤ x 13 0 + 1)) ∧ j + k_ = 2001) → (cmn n (x 1) (x 12 0) (x 13 0) 2001 1 = cmn n (x 1) (x 12 0) (x 13 0) k_ (j + 1)) → va_P D vwCl (moW T q n (x 0) (x 1) (mkF (x 2) (x 18 0)) (cdF (x 2) (x 18 0)) (x 3) (x 4) (x 11 0) (x 12 0) (x 13 0) (x 14 0) (x 15 0) (x 16 0) (x 17 0) (x 18 0) (x 19 0) (x 20 0) (x 21 0) (x 22 0) (y 31 0) (y 32 0) (y 33 0) (y 34 0) (y 35 0) (y 36 0) (y 37) (y 38) (y 39)) H → va_D A (moW T q n (x 0) (x 1) (mkF (x 2) (x 18 0)) (cdF (x 2) (x 18 0)) (x 3) (x 4) (x 11 0) (x 12 0) (x 13 0) (x 14 0) (x 15 0) (x 16 0) (x 17 0) (x 18 0) (x 19 0) (x 20 0) (x 21 0) (x 22 0) (y 31 0) (y 32 0) (y 33 0) (y 34 0) (y 35 0) (y 36 0) (y 37) (y 38) (y 39)) → va_S A s.heap H locs → lv_has ls 3 [(2, .int (iI (1))), (1, .int (iI (j))), (0, .ref (q 20))] → W p l e (rmK 1) s m ([.ref (q 20)] : List Value).toArray below meth cd H locs 0 0 Q (F0 m 4 ls []) := by
    intro k_
    induction k_ with
    | zero => intro j H locs ls hj hf _ _ _ _; exact absurd hj (by omega)
    | succ k_ ih1 =>
      intro j H locs ls hj hf hP hD hS hl
      refine lv_iload_n hx hb d_MO_both_4 rfl (lv_at hl 0 rfl) ?_
      refine cx_if_eq (tgt := 76) hx hb d_MO_both_5 rfl (by omega) (fun h0 => absurd h0 (by decide)) (fun _ => ?_)
      refine lv_aload_n hx hb d_MO_both_8 rfl (lv_at hl 2 rfl) ?_
      refine lv_aload_n hx hb d_MO_both_9 rfl (lv_at hl 2 rfl) ?_
      refine va_get (D := D) (ci := 5) (v := .int (iI (x 12 0))) (C := R_MO) (T := T_MO) (N := 28) hx hb hT lays_MO hown hK hP 0 rfl rfl 5 (by decide) (hT _ tw_641) (fun _ h9 => h9) rfl d_MO_both_10 ?_
      refine lv_iload_n hx hb d_MO_both_13 rfl (lv_at hl 1 rfl) ?_
      refine cx_isub hx hb d_MO_both_14 ?_
      refine cx_cI (ws2 := fun _ => moW T q n (x 0) (x 1) (mkF (x 2) (x 18 0)) (cdF (x 2) (x 18 0)) (x 3) (x 4) (x 11 0) (x 12 0) (x 13 0) (x 14 0) (x 15 0) (x 16 0) (x 17 0) (x 18 0) (x 19 0) (x 20 0) (x 21 0) (x 22 0) (y 31 0) (y 32 0) (y 33 0) (y 34 0) (y 35 0) (y 36 0) (y 37) (y 38) (y 39)) (cx_rV (q0 := 0) (ci := 5) (rest := []) (As := [.int (iI ((x 12 0) - j))]) hx hb hml hown hT hK hN hP hD hl.1 tw_731 k_MO_is (c_MO_is l D T H.size q n hn x y hX ((x 12 0) - j) (by omega)) ⟨by decide, by decide⟩ ⟨rfl, rfl⟩ [0, 1, 2, 3, 4, 5, 6, 7, 8, 9] (by decide) rfl rfl rfl rfl rfl (Nat.le_of_ble_eq_true rfl) ⟨Nat.zero_le _, Nat.zero_le _⟩ d_MO_both_15) hP hD hS hA [0, 1, 2, 3, 4, 5, 6, 7, 8, 9] [] [0, 1, 2, 3, 4, 5, 6, 7, 8, 9] rfl (wr := []) rfl (by decide) (by decide) (fun _ => rfl) (by decide) (fun r u_ H locs hq15 hP hD hS => ?_)
      rcases hq15 with ⟨rfl, h15⟩ | ⟨rfl, h15⟩
      · refine cx_if_eq (tgt := 34) hx hb d_MO_both_18 rfl (by omega) (fun h0 => absurd h0 (by decide)) (fun _ => ?_)
        refine lv_aload_n hx hb d_MO_both_21 rfl (lv_at hl 2 rfl) ?_
        refine lv_aload_n hx hb d_MO_both_22 rfl (lv_at hl 2 rfl) ?_
        refine va_get (D := D) (ci := 5) (v := .int (iI (x 13 0))) (C := R_MO) (T := T_MO) (N := 28) hx hb hT lays_MO hown hK hP 0 rfl rfl 6 (by decide) (hT _ tw_642) (fun _ h9 => h9) rfl d_MO_both_23 ?_
        refine lv_iload_n hx hb d_MO_both_26 rfl (lv_at hl 1 rfl) ?_
        refine cx_isub hx hb d_MO_both_27 ?_
        refine cx_cI (ws2 := fun _ => moW T q n (x 0) (x 1) (mkF (x 2) (x 18 0)) (cdF (x 2) (x 18 0)) (x 3) (x 4) (x 11 0) (x 12 0) (x 13 0) (x 14 0) (x 15 0) (x 16 0) (x 17 0) (x 18 0) (x 19 0) (x 20 0) (x 21 0) (x 22 0) (y 31 0) (y 32 0) (y 33 0) (y 34 0) (y 35 0) (y 36 0) (y 37) (y 38) (y 39)) (cx_rV (q0 := 0) (ci := 5) (rest := []) (As := [.int (iI ((x 13 0) - j))]) hx hb hml hown hT hK hN hP hD hl.1 tw_731 k_MO_is (c_MO_is l D T H.size q n hn x y hX ((x 13 0) - j) (by omega)) ⟨by decide, by decide⟩ ⟨rfl, rfl⟩ [0, 1, 2, 3, 4, 5, 6, 7, 8, 9] (by decide) rfl rfl rfl rfl rfl (Nat.le_of_ble_eq_true rfl) ⟨Nat.zero_le _, Nat.zero_le _⟩ d_MO_both_28) hP hD hS hA [0, 1, 2, 3, 4, 5, 6, 7, 8, 9] [] [0, 1, 2, 3, 4, 5, 6, 7, 8, 9] rfl (wr := []) rfl (by decide) (by decide) (fun _ => rfl) (by decide) (fun r u_ H locs hq28 hP hD hS => ?_)
        rcases hq28 with ⟨rfl, h28⟩ | ⟨rfl, h28⟩
        · refine cx_if_ne (tgt := 36) hx hb d_MO_both_31 rfl (by omega) (fun _ => ?_) (fun h0 => absurd h0 (by decide))
          refine lv_aload_n hx hb d_MO_both_36 rfl (lv_at hl 2 rfl) ?_
          refine va_get (D := D) (ci := 5) (v := .ref (q 22)) (C := R_MO) (T := T_MO) (N := 28) hx hb hT lays_MO hown hK hP 0 rfl rfl 3 (by decide) (hT _ tw_639) (fun _ h9 => h9) rfl d_MO_both_37 ?_
          refine lv_aload_n hx hb d_MO_both_40 rfl (lv_at hl 2 rfl) ?_
          refine va_get (D := D) (ci := 5) (v := .int (iI (x 12 0))) (C := R_MO) (T := T_MO) (N := 28) hx hb hT lays_MO hown hK hP 0 rfl rfl 5 (by decide) (hT _ tw_641) (fun _ h9 => h9) rfl d_MO_both_41 ?_
          refine lv_iload_n hx hb d_MO_both_44 rfl (lv_at hl 1 rfl) ?_
          refine cx_isub hx hb d_MO_both_45 ?_
          refine cx_zald (g := iF (x 1)) hx hb hK hP 2 2 rfl rfl (by omega) (by omega) d_MO_both_46 ?_
          have hm46 := hC.2 ((x 12 0) - j)
          refine cx_if_ne (tgt := 68) hx hb d_MO_both_47 rfl (by omega) (fun h47 => ?_) (fun h47 => ?_)
          · refine cx_iconst hx hb d_MO_both_68 ?_
            refine lv_istore_n (lv' := [(2, .int (iI (0))), (1, .int (iI (j))), (0, .ref (q 20))]) hx hb d_MO_both_69 rfl hl (by decide) rfl (fun ls hl => ?_)
            refine cx_iinc (k := 1) (lv' := [(1, .int (iI (j + 1))), (2, .int (iI (0))), (0, .ref (q 20))]) hx hb d_MO_both_70 hl rfl (by decide) rfl (fun ls hl => ?_)
            refine lv_goto (tgt := 4) hx hb d_MO_both_73 rfl ?_
            refine lv_iload_n hx hb d_MO_both_4 rfl (lv_at hl 1 rfl) ?_
            refine cx_if_eq (tgt := 76) hx hb d_MO_both_5 rfl (by omega) (fun _ => ?_) (fun h0 => absurd h0 (by decide))
            refine lv_iload_n hx hb d_MO_both_76 rfl (lv_at hl 0 rfl) ?_
            exact hret () (by rw [hf, cmnM, if_pos (by omega), if_pos (by omega)]) hP hD hS d_MO_both_77
          · refine lv_aload_n hx hb d_MO_both_50 rfl (lv_at hl 2 rfl) ?_
            refine va_get (D := D) (ci := 5) (v := .ref (q 22)) (C := R_MO) (T := T_MO) (N := 28) hx hb hT lays_MO hown hK hP 0 rfl rfl 3 (by decide) (hT _ tw_639) (fun _ h9 => h9) rfl d_MO_both_51 ?_
            refine lv_aload_n hx hb d_MO_both_54 rfl (lv_at hl 2 rfl) ?_
            refine va_get (D := D) (ci := 5) (v := .int (iI (x 13 0))) (C := R_MO) (T := T_MO) (N := 28) hx hb hT lays_MO hown hK hP 0 rfl rfl 6 (by decide) (hT _ tw_642) (fun _ h9 => h9) rfl d_MO_both_55 ?_
            refine lv_iload_n hx hb d_MO_both_58 rfl (lv_at hl 1 rfl) ?_
            refine cx_isub hx hb d_MO_both_59 ?_
            refine cx_zald (g := iF (x 1)) hx hb hK hP 2 2 rfl rfl (by omega) (by omega) d_MO_both_60 ?_
            have hm60 := hC.2 ((x 13 0) - j)
            refine cx_if_ne (tgt := 68) hx hb d_MO_both_61 rfl (by omega) (fun h61 => ?_) (fun h61 => ?_)
            · refine cx_iconst hx hb d_MO_both_68 ?_
              refine lv_istore_n (lv' := [(2, .int (iI (0))), (1, .int (iI (j))), (0, .ref (q 20))]) hx hb d_MO_both_69 rfl hl (by decide) rfl (fun ls hl => ?_)
              refine cx_iinc (k := 1) (lv' := [(1, .int (iI (j + 1))), (2, .int (iI (0))), (0, .ref (q 20))]) hx hb d_MO_both_70 hl rfl (by decide) rfl (fun ls hl => ?_)
              refine lv_goto (tgt := 4) hx hb d_MO_both_73 rfl ?_
              refine lv_iload_n hx hb d_MO_both_4 rfl (lv_at hl 1 rfl) ?_
              refine cx_if_eq (tgt := 76) hx hb d_MO_both_5 rfl (by omega) (fun _ => ?_) (fun h0 => absurd h0 (by decide))
              refine lv_iload_n hx hb d_MO_both_76 rfl (lv_at hl 0 rfl) ?_
              exact hret () (by rw [hf, cmnM, if_pos (by omega), if_pos (by omega)]) hP hD hS d_MO_both_77
            · refine cx_iconst hx hb d_MO_both_64 ?_
              refine lv_goto (tgt := 69) hx hb d_MO_both_65 rfl ?_
              refine lv_istore_n (lv' := [(2, .int (iI (1))), (1, .int (iI (j))), (0, .ref (q 20))]) hx hb d_MO_both_69 rfl hl (by decide) rfl (fun ls hl => ?_)
              refine cx_iinc (k := 1) (lv' := [(1, .int (iI (j + 1))), (2, .int (iI (1))), (0, .ref (q 20))]) hx hb d_MO_both_70 hl rfl (by decide) rfl (fun ls hl => ?_)
              refine lv_goto (tgt := 4) hx hb d_MO_both_73 rfl ?_
              exact ih1 (j + 1) _ _ _ (by omega) (by rw [hf, cmnM, if_pos (by omega), if_neg (by omega)]) hP hD hS (lv_sub hl [1, 0, 2] rfl)
        · refine cx_if_ne (tgt := 36) hx hb d_MO_both_31 rfl (by omega) (fun h0 => absurd h0 (by decide)) (fun _ => ?_)
          refine cx_iconst hx hb d_MO_both_34 ?_
          exact hret () (by rw [hf, cmnM, if_neg (by omega)]) hP hD hS d_MO_both_35
      · refine cx_if_eq (tgt := 34) hx hb d_MO_both_18 rfl (by omega) (fun _ => ?_) (fun h0 => absurd h0 (by decide))
        refine cx_iconst hx hb d_MO_both_34 ?_
        exact hret () (by rw [hf, cmnM, if_neg (by omega)]) hP hD hS d_MO_both_35
  exact L1 2001 0 _ _ _ (by omega) rfl hP hD hS (lv_sub hl [0, 1, 2] rfl)

set_option maxHeartbeats 4000000 in
set_option maxRecDepth 100000 in
theorem c_MO_move (l : Launch) (D : va_G) (T : Nat → ClassId) (sz : Nat) (q : Nat → Nat) (n : Nat) (hn : 400 ≤ n ∧ n ≤ 2000) (x y : SX) (hX : okX x) : MI l y_MO_move (wY y_MO_move b_MO_move 3 (some .int)) (rmK 2) D vwCl (tyL T) nwL sz [.ref (q 20)] (moW T q n (x 0) (x 1) (mkF (x 2) (x 18 0)) (cdF (x 2) (x 18 0)) (x 3) (x 4) (x 11 0) (x 12 0) (x 13 0) (x 14 0) (x 15 0) (x 16 0) (x 17 0) (x 18 0) (x 19 0) (x 20 0) (x 21 0) (x 22 0) (y 31 0) (y 32 0) (y 33 0) (y 34 0) (y 35 0) (y 36 0) (y 37) (y 38) (y 39)) (fun r (u : SX × SX) => pst (movS n x) r u.1 ∧ (u.2 31 = y 31 ∧ u.2 33 = y 33)) (fun (u : SX × SX) => moX T q n u.1 u.2) := by
  refine cx_inI (by decide) rfl (Nat.le_of_ble_eq_true rfl) ?_
  intro p e s m below meth cd ls A Q hx hb hml hT hown hret hP hK hD hN hS hA hl
  have hown : s.vm.findClass R_MO = some m.cls := hown
  have hl : lv_has ls 3 [(0, .ref (q 20))] := hl
  have hC := hX.1
  have hR0 := hX.2.1
  have hF := hX.2.2
  unfold okR at hR0
  refine lv_aload_n hx hb d_MO_move_0 rfl (lv_at hl 0 rfl) ?_
  refine cx_cI (ws2 := fun _ => moW T q n (x 0) (x 1) (mkF (x 2) (x 18 0)) (cdF (x 2) (x 18 0)) (x 3) (x 4) (x 11 0) (x 12 0) (x 13 0) (x 14 0) (x 15 0) (x 16 0) (x 17 0) (x 18 0) (x 19 0) (x 20 0) (x 21 0) (x 22 0) (y 31 0) (y 32 0) (y 33 0) (y 34 0) (y 35 0) (y 36 0) (y 37) (y 38) (y 39)) (cx_rV (q0 := 0) (ci := 5) (rest := []) (As := []) hx hb hml hown hT hK hN hP hD hl.1 tw_819 k_MO_both (c_MO_both l D T s.heap.size q n hn x y hX ) ⟨by decide, by decide⟩ ⟨rfl, rfl⟩ [0, 1, 2, 3, 4, 5, 6, 7, 8, 9] (by decide) rfl rfl rfl rfl rfl (Nat.le_of_ble_eq_true rfl) ⟨Nat.zero_le _, Nat.zero_le _⟩ d_MO_move_1) hP hD hS hA [0, 1, 2, 3, 4, 5, 6, 7, 8, 9] [] [0, 1, 2, 3, 4, 5, 6, 7, 8, 9] rfl (wr := []) rfl (by decide) (by decide) (fun _ => rfl) (by decide) (fun r u_ H locs hq1 hP hD hS => ?_)
  subst hq1
  refine cx_eq (y := iI (cmn n (x 1) (x 12 0) (x 13 0) 2001 1)) rfl ?_
  refine lv_istore_n (lv' := [(1, .int (iI (cmn n (x 1) (x 12 0) (x 13 0) 2001 1))), (0, .ref (q 20))]) hx hb d_MO_move_4 rfl hl (by decide) rfl (fun ls hl => ?_)
  obtain ⟨k, hk⟩ : ∃ z, z = cmn n (x 1) (x 12 0) (x 13 0) 2001 1 := ⟨_, rfl⟩
  rw [← hk] at hl
  have hk1 := cmn_in hk
  refine lv_iload_n hx hb d_MO_move_5 rfl (lv_at hl 0 rfl) ?_
  refine cx_if_ne (tgt := 11) hx hb d_MO_move_6 rfl (by omega) (fun h6 => ?_) (fun h6 => ?_)
  · refine cx_iconst hx hb d_MO_move_11 ?_
    refine lv_istore_n (lv' := [(2, .int (iI (0))), (1, .int (iI (k))), (0, .ref (q 20))]) hx hb d_MO_move_12 rfl hl (by decide) rfl (fun ls hl => ?_)
    have L1 : ∀ (k_ : Nat) (j : Int) (H : Heap) (locs : List Loc) (ls : Array Slot), (0 ≤ j ∧ j ≤ k ∧ k - j < k_) → (okC (mvN (x 0) (x 12 0) (x 13 0) (j).toNat) (x 1)) → va_P D vwCl (moW T q n (mvN (x 0) (x 12 0) (x 13 0) (j).toNat) (x 1) (mkF (x 2) (x 18 0)) (cdF (x 2) (x 18 0)) (x 3) (x 4) (x 11 0) (x 12 0) (x 13 0) (x 14 0) (x 15 0) (x 16 0) (x 17 0) (x 18 0) (x 19 0) (x 20 0) (x 21 0) (x 22 0) (y 31 0) (y 32 0) (y 33 0) (y 34 0) (y 35 0) (y 36 0) (y 37) (y 38) (y 39)) H → va_D A (moW T q n (mvN (x 0) (x 12 0) (x 13 0) (j).toNat) (x 1) (mkF (x 2) (x 18 0)) (cdF (x 2) (x 18 0)) (x 3) (x 4) (x 11 0) (x 12 0) (x 13 0) (x 14 0) (x 15 0) (x 16 0) (x 17 0) (x 18 0) (x 19 0) (x 20 0) (x 21 0) (x 22 0) (y 31 0) (y 32 0) (y 33 0) (y 34 0) (y 35 0) (y 36 0) (y 37) (y 38) (y 39)) → va_S A s.heap H locs → lv_has ls 3 [(2, .int (iI (j))), (1, .int (iI (k))), (0, .ref (q 20))] → W p l e (rmK 2) s m ([.ref (q 20)] : List Value).toArray below meth cd H locs 0 0 Q (F0 m 13 ls []) := by
      intro k_
      induction k_ with
      | zero => intro j H locs ls hj hC _ _ _ _; exact absurd hj (by omega)
      | succ k_ ih1 =>
        intro j H locs ls hj hC hP hD hS hl
        refine lv_iload_n hx hb d_MO_move_13 rfl (lv_at hl 0 rfl) ?_
        refine lv_iload_n hx hb d_MO_move_14 rfl (lv_at hl 1 rfl) ?_
        refine cx_icmp_ge (tgt := 46) hx hb d_MO_move_15 rfl (by omega) (by omega) (fun h15 => ?_) (fun h15 => ?_)
        · obtain rfl : j = k := by omega
          refine lv_aload_n hx hb d_MO_move_46 rfl (lv_at hl 2 rfl) ?_
          refine lv_dup hx hb d_MO_move_47 rfl ?_
          refine va_get (D := D) (ci := 5) (v := .int (iI (x 12 0))) (C := R_MO) (T := T_MO) (N := 28) hx hb hT lays_MO hown hK hP 0 rfl rfl 5 (by decide) (hT _ tw_641) (fun _ h9 => h9) rfl d_MO_move_48 ?_
          refine lv_iload_n hx hb d_MO_move_51 rfl (lv_at hl 1 rfl) ?_
          refine cx_isub hx hb d_MO_move_52 ?_
          refine va_put (D := D) (ci := 5) (v := .int (iI ((x 12 0) - j))) (ty := .int) (C := R_MO) (T := T_MO) (N := 28) hx hb hT lays_MO t_MO t_MO_ok n_MO hown hK hP hD hS 0 rfl rfl 5 (by decide) (hT _ tw_641) (fun _ h9 => h9) rfl (by decide +kernel) rfl rfl (Nat.le_of_ble_eq_true rfl) d_MO_move_53 (fun H locs hP hD hS => ?_)
          have hP : va_P D vwCl (moW T q n (mvN (x 0) (x 12 0) (x 13 0) (j).toNat) (x 1) (mkF (x 2) (x 18 0)) (cdF (x 2) (x 18 0)) (x 3) (x 4) (x 11 0) ((x 12 0) - j) (x 13 0) (x 14 0) (x 15 0) (x 16 0) (x 17 0) (x 18 0) (x 19 0) (x 20 0) (x 21 0) (x 22 0) (y 31 0) (y 32 0) (y 33 0) (y 34 0) (y 35 0) (y 36 0) (y 37) (y 38) (y 39)) H := hP
          have hD : va_D A (moW T q n (mvN (x 0) (x 12 0) (x 13 0) (j).toNat) (x 1) (mkF (x 2) (x 18 0)) (cdF (x 2) (x 18 0)) (x 3) (x 4) (x 11 0) ((x 12 0) - j) (x 13 0) (x 14 0) (x 15 0) (x 16 0) (x 17 0) (x 18 0) (x 19 0) (x 20 0) (x 21 0) (x 22 0) (y 31 0) (y 32 0) (y 33 0) (y 34 0) (y 35 0) (y 36 0) (y 37) (y 38) (y 39)) := hD
          refine lv_aload_n hx hb d_MO_move_56 rfl (lv_at hl 2 rfl) ?_
          refine lv_dup hx hb d_MO_move_57 rfl ?_
          refine va_get (D := D) (ci := 5) (v := .int (iI (x 13 0))) (C := R_MO) (T := T_MO) (N := 28) hx hb hT lays_MO hown hK hP 0 rfl rfl 6 (by decide) (hT _ tw_642) (fun _ h9 => h9) rfl d_MO_move_58 ?_
          refine lv_iload_n hx hb d_MO_move_61 rfl (lv_at hl 1 rfl) ?_
          refine cx_isub hx hb d_MO_move_62 ?_
          refine va_put (D := D) (ci := 5) (v := .int (iI ((x 13 0) - j))) (ty := .int) (C := R_MO) (T := T_MO) (N := 28) hx hb hT lays_MO t_MO t_MO_ok n_MO hown hK hP hD hS 0 rfl rfl 6 (by decide) (hT _ tw_642) (fun _ h9 => h9) rfl (by decide +kernel) rfl rfl (Nat.le_of_ble_eq_true rfl) d_MO_move_63 (fun H locs hP hD hS => ?_)
          have hP : va_P D vwCl (moW T q n (mvN (x 0) (x 12 0) (x 13 0) (j).toNat) (x 1) (mkF (x 2) (x 18 0)) (cdF (x 2) (x 18 0)) (x 3) (x 4) (x 11 0) ((x 12 0) - j) ((x 13 0) - j) (x 14 0) (x 15 0) (x 16 0) (x 17 0) (x 18 0) (x 19 0) (x 20 0) (x 21 0) (x 22 0) (y 31 0) (y 32 0) (y 33 0) (y 34 0) (y 35 0) (y 36 0) (y 37) (y 38) (y 39)) H := hP
          have hD : va_D A (moW T q n (mvN (x 0) (x 12 0) (x 13 0) (j).toNat) (x 1) (mkF (x 2) (x 18 0)) (cdF (x 2) (x 18 0)) (x 3) (x 4) (x 11 0) ((x 12 0) - j) ((x 13 0) - j) (x 14 0) (x 15 0) (x 16 0) (x 17 0) (x 18 0) (x 19 0) (x 20 0) (x 21 0) (x 22 0) (y 31 0) (y 32 0) (y 33 0) (y 34 0) (y 35 0) (y 36 0) (y 37) (y 38) (y 39)) := hD
          refine cx_iconst hx hb d_MO_move_66 ?_
          exact hret ((up (up (up x 0 (mvN (x 0) (x 12 0) (x 13 0) (j).toNat)) 12 (cst ((x 12 0) - j))) 13 (cst ((x 13 0) - j)), y) : SX × SX) (⟨pst_of (by unfold movS movK; rw [← hk, if_neg (by omega)]) (show okX (up (up (up x 0 (mvN (x 0) (x 12 0) (x 13 0) (j).toNat)) 12 (cst ((x 12 0) - j))) 13 (cst ((x 13 0) - j))) from ⟨hC, (show okR (x 11 0) ((x 12 0) - j) ((x 13 0) - j) (x 14 0) (x 15 0) (x 16 0) (x 17 0) (x 18 0) (x 19 0) (x 20 0) by have h8 := hX.2.1; unfold okR at h8 ⊢; omega), hX.2.2⟩), ⟨rfl, rfl⟩⟩) hP hD hS d_MO_move_67
        · refine lv_aload_n hx hb d_MO_move_18 rfl (lv_at hl 2 rfl) ?_
          refine va_get (D := D) (ci := 5) (v := .ref (q 21)) (C := R_MO) (T := T_MO) (N := 28) hx hb hT lays_MO hown hK hP 0 rfl rfl 2 (by decide) (hT _ tw_638) (fun _ h9 => h9) rfl d_MO_move_19 ?_
          refine lv_aload_n hx hb d_MO_move_22 rfl (lv_at hl 2 rfl) ?_
          refine va_get (D := D) (ci := 5) (v := .int (iI (x 13 0))) (C := R_MO) (T := T_MO) (N := 28) hx hb hT lays_MO hown hK hP 0 rfl rfl 6 (by decide) (hT _ tw_642) (fun _ h9 => h9) rfl d_MO_move_23 ?_
          refine lv_iload_n hx hb d_MO_move_26 rfl (lv_at hl 0 rfl) ?_
          refine cx_isub hx hb d_MO_move_27 ?_
          refine lv_aload_n hx hb d_MO_move_28 rfl (lv_at hl 2 rfl) ?_
          refine va_get (D := D) (ci := 5) (v := .ref (q 21)) (C := R_MO) (T := T_MO) (N := 28) hx hb hT lays_MO hown hK hP 0 rfl rfl 2 (by decide) (hT _ tw_638) (fun _ h9 => h9) rfl d_MO_move_29 ?_
          refine lv_aload_n hx hb d_MO_move_32 rfl (lv_at hl 2 rfl) ?_
          refine va_get (D := D) (ci := 5) (v := .int (iI (x 12 0))) (C := R_MO) (T := T_MO) (N := 28) hx hb hT lays_MO hown hK hP 0 rfl rfl 5 (by decide) (hT _ tw_641) (fun _ h9 => h9) rfl d_MO_move_33 ?_
          refine lv_iload_n hx hb d_MO_move_36 rfl (lv_at hl 0 rfl) ?_
          refine cx_isub hx hb d_MO_move_37 ?_
          refine cx_bald (g := iF (mvN (x 0) (x 12 0) (x 13 0) (j).toNat)) hx hb hK hP 1 1 rfl rfl (by omega) (by omega) d_MO_move_38 ?_
          have hc38 := hC.1 ((x 12 0) - j)
          refine cx_bast (g := iF (mvN (x 0) (x 12 0) (x 13 0) (j).toNat)) (g' := iF (fu (mvN (x 0) (x 12 0) (x 13 0) (j).toNat) ((x 13 0) - j) ((mvN (x 0) (x 12 0) (x 13 0) (j).toNat) ((x 12 0) - j)))) hx hb hK hP hD hS 1 1 rfl rfl (by omega) (by omega) (by omega) (fun j => iF_put j) d_MO_move_39 (fun H locs hP hD hS => ?_)
          have hP : va_P D vwCl (moW T q n (fu (mvN (x 0) (x 12 0) (x 13 0) (j).toNat) ((x 13 0) - j) ((mvN (x 0) (x 12 0) (x 13 0) (j).toNat) ((x 12 0) - j))) (x 1) (mkF (x 2) (x 18 0)) (cdF (x 2) (x 18 0)) (x 3) (x 4) (x 11 0) (x 12 0) (x 13 0) (x 14 0) (x 15 0) (x 16 0) (x 17 0) (x 18 0) (x 19 0) (x 20 0) (x 21 0) (x 22 0) (y 31 0) (y 32 0) (y 33 0) (y 34 0) (y 35 0) (y 36 0) (y 37) (y 38) (y 39)) H := hP
          have hD : va_D A (moW T q n (fu (mvN (x 0) (x 12 0) (x 13 0) (j).toNat) ((x 13 0) - j) ((mvN (x 0) (x 12 0) (x 13 0) (j).toNat) ((x 12 0) - j))) (x 1) (mkF (x 2) (x 18 0)) (cdF (x 2) (x 18 0)) (x 3) (x 4) (x 11 0) (x 12 0) (x 13 0) (x 14 0) (x 15 0) (x 16 0) (x 17 0) (x 18 0) (x 19 0) (x 20 0) (x 21 0) (x 22 0) (y 31 0) (y 32 0) (y 33 0) (y 34 0) (y 35 0) (y 36 0) (y 37) (y 38) (y 39)) := hD
          have hC : okC (fu (mvN (x 0) (x 12 0) (x 13 0) (j).toNat) ((x 13 0) - j) ((mvN (x 0) (x 12 0) (x 13 0) (j).toNat) ((x 12 0) - j))) (x 1) := okC_fu hC (by omega)
          refine cx_iinc (k := 0) (lv' := [(2, .int (iI (j + 1))), (1, .int (iI (k))), (0, .ref (q 20))]) hx hb d_MO_move_40 hl rfl (by decide) rfl (fun ls hl => ?_)
          refine lv_goto (tgt := 13) hx hb d_MO_move_43 rfl ?_
          rw [mvN_step (by omega)] at hP hD hC
          exact ih1 (j + 1) _ _ _ (by omega) hC hP hD hS (lv_sub hl [0, 1, 2] rfl)
    exact L1 2001 0 _ _ _ (by omega) hC hP hD hS (lv_sub hl [0, 1, 2] rfl)
  · refine cx_iconst hx hb d_MO_move_9 ?_
    exact hret ((x, y) : SX × SX) (⟨pst_of (by unfold movS movK; rw [if_pos (by rw [← hk]; omega)]) hX, ⟨rfl, rfl⟩⟩) hP hD hS d_MO_move_10

set_option maxHeartbeats 4000000 in
set_option maxRecDepth 100000 in
theorem c_MO_part (l : Launch) (D : va_G) (T : Nat → ClassId) (sz : Nat) (q : Nat → Nat) (n : Nat) (hn : 400 ≤ n ∧ n ≤ 2000) (x y : SX) (hX : okX x) (hY : (0 ≤ y 32 0 ∧ y 32 0 < 64) ∧ (1 ≤ y 33 0 ∧ y 33 0 ≤ 8)) : MI l y_MO_part (wY y_MO_part b_MO_part 2 (some .int)) (rmK 1) D vwCl (tyL T) nwL sz [.ref (q 20)] (moW T q n (x 0) (x 1) (mkF (x 2) (x 18 0)) (cdF (x 2) (x 18 0)) (x 3) (x 4) (x 11 0) (x 12 0) (x 13 0) (x 14 0) (x 15 0) (x 16 0) (x 17 0) (x 18 0) (x 19 0) (x 20 0) (x 21 0) (x 22 0) (y 31 0) (y 32 0) (y 33 0) (y 34 0) (y 35 0) (y 36 0) (y 37) (y 38) (y 39)) (fun r (u : SX × SX) => pst (bitS n (if y 32 0 = 52 then 15 else 48) x) r u.1 ∧ (u.2 31 = y 31 ∧ u.2 33 = y 33)) (fun (u : SX × SX) => moX T q n u.1 u.2) := by
  refine cx_inI (by decide) rfl (Nat.le_of_ble_eq_true rfl) ?_
  intro p e s m below meth cd ls A Q hx hb hml hT hown hret hP hK hD hN hS hA hl
  have hown : s.vm.findClass R_MO = some m.cls := hown
  have hl : lv_has ls 2 [(0, .ref (q 20))] := hl
  have hC := hX.1
  have hR0 := hX.2.1
  have hF := hX.2.2
  unfold okR at hR0
  have hcA := hC.1 (x 12 0)
  have hcB := hC.1 (x 13 0)
  refine lv_aload_n hx hb d_MO_part_0 rfl (lv_at hl 0 rfl) ?_
  refine lv_aload_n hx hb d_MO_part_1 rfl (lv_at hl 0 rfl) ?_
  refine va_get (D := D) (ci := 5) (v := .int (iI (x 12 0))) (C := R_MO) (T := T_MO) (N := 28) hx hb hT lays_MO hown hK hP 0 rfl rfl 5 (by decide) (hT _ tw_641) (fun _ h9 => h9) rfl d_MO_part_2 ?_
  refine cx_cI (ws2 := fun _ => moW T q n (x 0) (x 1) (mkF (x 2) (x 18 0)) (cdF (x 2) (x 18 0)) (x 3) (x 4) (x 11 0) (x 12 0) (x 13 0) (x 14 0) (x 15 0) (x 16 0) (x 17 0) (x 18 0) (x 19 0) (x 20 0) (x 21 0) (x 22 0) (y 31 0) (y 32 0) (y 33 0) (y 34 0) (y 35 0) (y 36 0) (y 37) (y 38) (y 39)) (cx_rV (q0 := 0) (ci := 5) (rest := []) (As := [.int (iI (x 12 0))]) hx hb hml hown hT hK hN hP hD hl.1 tw_731 k_MO_is (c_MO_is l D T s.heap.size q n hn x y hX (x 12 0) (by omega)) ⟨by decide, by decide⟩ ⟨rfl, rfl⟩ [0, 1, 2, 3, 4, 5, 6, 7, 8, 9] (by decide) rfl rfl rfl rfl rfl (Nat.le_of_ble_eq_true rfl) ⟨Nat.zero_le _, Nat.zero_le _⟩ d_MO_part_5) hP hD hS hA [0, 1, 2, 3, 4, 5, 6, 7, 8, 9] [] [0, 1, 2, 3, 4, 5, 6, 7, 8, 9] rfl (wr := []) rfl (by decide) (by decide) (fun _ => rfl) (by decide) (fun r u_ H locs hq5 hP hD hS => ?_)
  rcases hq5 with ⟨rfl, h5⟩ | ⟨rfl, h5⟩
  · refine cx_if_eq (tgt := 22) hx hb d_MO_part_8 rfl (by omega) (fun h0 => absurd h0 (by decide)) (fun _ => ?_)
    refine lv_aload_n hx hb d_MO_part_11 rfl (lv_at hl 0 rfl) ?_
    refine lv_aload_n hx hb d_MO_part_12 rfl (lv_at hl 0 rfl) ?_
    refine va_get (D := D) (ci := 5) (v := .int (iI (x 13 0))) (C := R_MO) (T := T_MO) (N := 28) hx hb hT lays_MO hown hK hP 0 rfl rfl 6 (by decide) (hT _ tw_642) (fun _ h9 => h9) rfl d_MO_part_13 ?_
    refine cx_cI (ws2 := fun _ => moW T q n (x 0) (x 1) (mkF (x 2) (x 18 0)) (cdF (x 2) (x 18 0)) (x 3) (x 4) (x 11 0) (x 12 0) (x 13 0) (x 14 0) (x 15 0) (x 16 0) (x 17 0) (x 18 0) (x 19 0) (x 20 0) (x 21 0) (x 22 0) (y 31 0) (y 32 0) (y 33 0) (y 34 0) (y 35 0) (y 36 0) (y 37) (y 38) (y 39)) (cx_rV (q0 := 0) (ci := 5) (rest := []) (As := [.int (iI (x 13 0))]) hx hb hml hown hT hK hN hP hD hl.1 tw_731 k_MO_is (c_MO_is l D T H.size q n hn x y hX (x 13 0) (by omega)) ⟨by decide, by decide⟩ ⟨rfl, rfl⟩ [0, 1, 2, 3, 4, 5, 6, 7, 8, 9] (by decide) rfl rfl rfl rfl rfl (Nat.le_of_ble_eq_true rfl) ⟨Nat.zero_le _, Nat.zero_le _⟩ d_MO_part_16) hP hD hS hA [0, 1, 2, 3, 4, 5, 6, 7, 8, 9] [] [0, 1, 2, 3, 4, 5, 6, 7, 8, 9] rfl (wr := []) rfl (by decide) (by decide) (fun _ => rfl) (by decide) (fun r u_ H locs hq16 hP hD hS => ?_)
    rcases hq16 with ⟨rfl, h16⟩ | ⟨rfl, h16⟩
    · refine cx_if_ne (tgt := 24) hx hb d_MO_part_19 rfl (by omega) (fun _ => ?_) (fun h0 => absurd h0 (by decide))
      refine lv_aload_n hx hb d_MO_part_24 rfl (lv_at hl 0 rfl) ?_
      refine va_get (D := D) (ci := 5) (v := .int (iI (y 32 0))) (C := R_MO) (T := T_MO) (N := 28) hx hb hT lays_MO hown hK hP 0 rfl rfl 12 (by decide) (hT _ tw_648) (fun _ h9 => h9) rfl d_MO_part_25 ?_
      refine cx_bipush hx hb d_MO_part_28 rfl ?_
      refine cx_icmp_ne (tgt := 38) hx hb d_MO_part_30 rfl (by omega) (by omega) (fun h30 => ?_) (fun h30 => ?_)
      · refine cx_bipush hx hb d_MO_part_38 rfl ?_
        refine lv_istore_n (lv' := [(1, .int (iI (15))), (0, .ref (q 20))]) hx hb d_MO_part_40 rfl hl (by decide) rfl (fun ls hl => ?_)
        refine lv_aload_n hx hb d_MO_part_41 rfl (lv_at hl 1 rfl) ?_
        refine va_get (D := D) (ci := 5) (v := .ref (q 21)) (C := R_MO) (T := T_MO) (N := 28) hx hb hT lays_MO hown hK hP 0 rfl rfl 2 (by decide) (hT _ tw_638) (fun _ h9 => h9) rfl d_MO_part_42 ?_
        refine lv_aload_n hx hb d_MO_part_45 rfl (lv_at hl 1 rfl) ?_
        refine va_get (D := D) (ci := 5) (v := .int (iI (x 13 0))) (C := R_MO) (T := T_MO) (N := 28) hx hb hT lays_MO hown hK hP 0 rfl rfl 6 (by decide) (hT _ tw_642) (fun _ h9 => h9) rfl d_MO_part_46 ?_
        refine lv_aload_n hx hb d_MO_part_49 rfl (lv_at hl 1 rfl) ?_
        refine va_get (D := D) (ci := 5) (v := .ref (q 21)) (C := R_MO) (T := T_MO) (N := 28) hx hb hT lays_MO hown hK hP 0 rfl rfl 2 (by decide) (hT _ tw_638) (fun _ h9 => h9) rfl d_MO_part_50 ?_
        refine lv_aload_n hx hb d_MO_part_53 rfl (lv_at hl 1 rfl) ?_
        refine va_get (D := D) (ci := 5) (v := .int (iI (x 13 0))) (C := R_MO) (T := T_MO) (N := 28) hx hb hT lays_MO hown hK hP 0 rfl rfl 6 (by decide) (hT _ tw_642) (fun _ h9 => h9) rfl d_MO_part_54 ?_
        refine cx_bald (g := iF (x 0)) hx hb hK hP 1 1 rfl rfl (by omega) (by omega) d_MO_part_57 ?_
        have hc57 := hC.1 (x 13 0)
        refine lv_iload_n hx hb d_MO_part_58 rfl (lv_at hl 0 rfl) ?_
        refine lv_iand hx hb d_MO_part_59 ?_
        refine cx_eq (bt_c15 hcB) ?_
        refine lv_aload_n hx hb d_MO_part_60 rfl (lv_at hl 1 rfl) ?_
        refine va_get (D := D) (ci := 5) (v := .ref (q 21)) (C := R_MO) (T := T_MO) (N := 28) hx hb hT lays_MO hown hK hP 0 rfl rfl 2 (by decide) (hT _ tw_638) (fun _ h9 => h9) rfl d_MO_part_61 ?_
        refine lv_aload_n hx hb d_MO_part_64 rfl (lv_at hl 1 rfl) ?_
        refine va_get (D := D) (ci := 5) (v := .int (iI (x 12 0))) (C := R_MO) (T := T_MO) (N := 28) hx hb hT lays_MO hown hK hP 0 rfl rfl 5 (by decide) (hT _ tw_641) (fun _ h9 => h9) rfl d_MO_part_65 ?_
        refine cx_bald (g := iF (x 0)) hx hb hK hP 1 1 rfl rfl (by omega) (by omega) d_MO_part_68 ?_
        have hc68 := hC.1 (x 12 0)
        refine cx_bipush hx hb d_MO_part_69 rfl ?_
        refine lv_iload_n hx hb d_MO_part_71 rfl (lv_at hl 0 rfl) ?_
        refine cx_isub hx hb d_MO_part_72 ?_
        refine lv_iand hx hb d_MO_part_73 ?_
        refine cx_eq (show iI (x 0 (x 12 0)) &&& iI (63 - 15) = iI (x 0 (x 12 0) / 16 * 16) from bt_c48 hcA) ?_
        refine lv_ior hx hb d_MO_part_74 ?_
        refine cx_eq (bt_or2 hcB hcA) ?_
        have hpb := pbt_in 48 hcB hcA
        refine lv_i2b (v := iI (pbt 48 (x 0 (x 13 0)) (x 0 (x 12 0)))) hx hb d_MO_part_75 (i2b_ok (by omega)) ?_
        refine cx_bast (g := iF (x 0)) (g' := iF (fu (x 0) (x 13 0) (pbt 48 (x 0 (x 13 0)) (x 0 (x 12 0))))) hx hb hK hP hD hS 1 1 rfl rfl (by omega) (by omega) (by omega) (fun j => iF_put j) d_MO_part_76 (fun H locs hP hD hS => ?_)
        have hP : va_P D vwCl (moW T q n (fu (x 0) (x 13 0) (pbt 48 (x 0 (x 13 0)) (x 0 (x 12 0)))) (x 1) (mkF (x 2) (x 18 0)) (cdF (x 2) (x 18 0)) (x 3) (x 4) (x 11 0) (x 12 0) (x 13 0) (x 14 0) (x 15 0) (x 16 0) (x 17 0) (x 18 0) (x 19 0) (x 20 0) (x 21 0) (x 22 0) (y 31 0) (y 32 0) (y 33 0) (y 34 0) (y 35 0) (y 36 0) (y 37) (y 38) (y 39)) H := hP
        have hD : va_D A (moW T q n (fu (x 0) (x 13 0) (pbt 48 (x 0 (x 13 0)) (x 0 (x 12 0)))) (x 1) (mkF (x 2) (x 18 0)) (cdF (x 2) (x 18 0)) (x 3) (x 4) (x 11 0) (x 12 0) (x 13 0) (x 14 0) (x 15 0) (x 16 0) (x 17 0) (x 18 0) (x 19 0) (x 20 0) (x 21 0) (x 22 0) (y 31 0) (y 32 0) (y 33 0) (y 34 0) (y 35 0) (y 36 0) (y 37) (y 38) (y 39)) := hD
        have hC : okC (fu (x 0) (x 13 0) (pbt 48 (x 0 (x 13 0)) (x 0 (x 12 0)))) (x 1) := okC_fu hC (by omega)
        refine lv_aload_n hx hb d_MO_part_77 rfl (lv_at hl 1 rfl) ?_
        refine lv_dup hx hb d_MO_part_78 rfl ?_
        refine va_get (D := D) (ci := 5) (v := .int (iI (x 12 0))) (C := R_MO) (T := T_MO) (N := 28) hx hb hT lays_MO hown hK hP 0 rfl rfl 5 (by decide) (hT _ tw_641) (fun _ h9 => h9) rfl d_MO_part_79 ?_
        refine cx_iconst hx hb d_MO_part_82 ?_
        refine cx_isub hx hb d_MO_part_83 ?_
        refine va_put (D := D) (ci := 5) (v := .int (iI ((x 12 0) - 1))) (ty := .int) (C := R_MO) (T := T_MO) (N := 28) hx hb hT lays_MO t_MO t_MO_ok n_MO hown hK hP hD hS 0 rfl rfl 5 (by decide) (hT _ tw_641) (fun _ h9 => h9) rfl (by decide +kernel) rfl rfl (Nat.le_of_ble_eq_true rfl) d_MO_part_84 (fun H locs hP hD hS => ?_)
        have hP : va_P D vwCl (moW T q n (fu (x 0) (x 13 0) (pbt 48 (x 0 (x 13 0)) (x 0 (x 12 0)))) (x 1) (mkF (x 2) (x 18 0)) (cdF (x 2) (x 18 0)) (x 3) (x 4) (x 11 0) ((x 12 0) - 1) (x 13 0) (x 14 0) (x 15 0) (x 16 0) (x 17 0) (x 18 0) (x 19 0) (x 20 0) (x 21 0) (x 22 0) (y 31 0) (y 32 0) (y 33 0) (y 34 0) (y 35 0) (y 36 0) (y 37) (y 38) (y 39)) H := hP
        have hD : va_D A (moW T q n (fu (x 0) (x 13 0) (pbt 48 (x 0 (x 13 0)) (x 0 (x 12 0)))) (x 1) (mkF (x 2) (x 18 0)) (cdF (x 2) (x 18 0)) (x 3) (x 4) (x 11 0) ((x 12 0) - 1) (x 13 0) (x 14 0) (x 15 0) (x 16 0) (x 17 0) (x 18 0) (x 19 0) (x 20 0) (x 21 0) (x 22 0) (y 31 0) (y 32 0) (y 33 0) (y 34 0) (y 35 0) (y 36 0) (y 37) (y 38) (y 39)) := hD
        refine lv_aload_n hx hb d_MO_part_87 rfl (lv_at hl 1 rfl) ?_
        refine lv_dup hx hb d_MO_part_88 rfl ?_
        refine va_get (D := D) (ci := 5) (v := .int (iI (x 13 0))) (C := R_MO) (T := T_MO) (N := 28) hx hb hT lays_MO hown hK hP 0 rfl rfl 6 (by decide) (hT _ tw_642) (fun _ h9 => h9) rfl d_MO_part_89 ?_
        refine cx_iconst hx hb d_MO_part_92 ?_
        refine cx_isub hx hb d_MO_part_93 ?_
        refine va_put (D := D) (ci := 5) (v := .int (iI ((x 13 0) - 1))) (ty := .int) (C := R_MO) (T := T_MO) (N := 28) hx hb hT lays_MO t_MO t_MO_ok n_MO hown hK hP hD hS 0 rfl rfl 6 (by decide) (hT _ tw_642) (fun _ h9 => h9) rfl (by decide +kernel) rfl rfl (Nat.le_of_ble_eq_true rfl) d_MO_part_94 (fun H locs hP hD hS => ?_)
        have hP : va_P D vwCl (moW T q n (fu (x 0) (x 13 0) (pbt 48 (x 0 (x 13 0)) (x 0 (x 12 0)))) (x 1) (mkF (x 2) (x 18 0)) (cdF (x 2) (x 18 0)) (x 3) (x 4) (x 11 0) ((x 12 0) - 1) ((x 13 0) - 1) (x 14 0) (x 15 0) (x 16 0) (x 17 0) (x 18 0) (x 19 0) (x 20 0) (x 21 0) (x 22 0) (y 31 0) (y 32 0) (y 33 0) (y 34 0) (y 35 0) (y 36 0) (y 37) (y 38) (y 39)) H := hP
        have hD : va_D A (moW T q n (fu (x 0) (x 13 0) (pbt 48 (x 0 (x 13 0)) (x 0 (x 12 0)))) (x 1) (mkF (x 2) (x 18 0)) (cdF (x 2) (x 18 0)) (x 3) (x 4) (x 11 0) ((x 12 0) - 1) ((x 13 0) - 1) (x 14 0) (x 15 0) (x 16 0) (x 17 0) (x 18 0) (x 19 0) (x 20 0) (x 21 0) (x 22 0) (y 31 0) (y 32 0) (y 33 0) (y 34 0) (y 35 0) (y 36 0) (y 37) (y 38) (y 39)) := hD
        refine cx_iconst hx hb d_MO_part_97 ?_
        exact hret ((up (up (up x 0 (fu (x 0) (x 13 0) (pbt 48 (x 0 (x 13 0)) (x 0 (x 12 0))))) 12 (cst ((x 12 0) - 1))) 13 (cst ((x 13 0) - 1)), y) : SX × SX) (⟨pst_of (by unfold bitS; rw [if_pos (by omega), if_neg h30]) (show okX (up (up (up x 0 (fu (x 0) (x 13 0) (pbt 48 (x 0 (x 13 0)) (x 0 (x 12 0))))) 12 (cst ((x 12 0) - 1))) 13 (cst ((x 13 0) - 1))) from ⟨hC, (show okR (x 11 0) ((x 12 0) - 1) ((x 13 0) - 1) (x 14 0) (x 15 0) (x 16 0) (x 17 0) (x 18 0) (x 19 0) (x 20 0) by have h8 := hX.2.1; unfold okR at h8 ⊢; omega), hX.2.2⟩), ⟨rfl, rfl⟩⟩) hP hD hS d_MO_part_98
      · refine cx_bipush hx hb d_MO_part_33 rfl ?_
        refine lv_goto (tgt := 40) hx hb d_MO_part_35 rfl ?_
        refine lv_istore_n (lv' := [(1, .int (iI (48))), (0, .ref (q 20))]) hx hb d_MO_part_40 rfl hl (by decide) rfl (fun ls hl => ?_)
        refine lv_aload_n hx hb d_MO_part_41 rfl (lv_at hl 1 rfl) ?_
        refine va_get (D := D) (ci := 5) (v := .ref (q 21)) (C := R_MO) (T := T_MO) (N := 28) hx hb hT lays_MO hown hK hP 0 rfl rfl 2 (by decide) (hT _ tw_638) (fun _ h9 => h9) rfl d_MO_part_42 ?_
        refine lv_aload_n hx hb d_MO_part_45 rfl (lv_at hl 1 rfl) ?_
        refine va_get (D := D) (ci := 5) (v := .int (iI (x 13 0))) (C := R_MO) (T := T_MO) (N := 28) hx hb hT lays_MO hown hK hP 0 rfl rfl 6 (by decide) (hT _ tw_642) (fun _ h9 => h9) rfl d_MO_part_46 ?_
        refine lv_aload_n hx hb d_MO_part_49 rfl (lv_at hl 1 rfl) ?_
        refine va_get (D := D) (ci := 5) (v := .ref (q 21)) (C := R_MO) (T := T_MO) (N := 28) hx hb hT lays_MO hown hK hP 0 rfl rfl 2 (by decide) (hT _ tw_638) (fun _ h9 => h9) rfl d_MO_part_50 ?_
        refine lv_aload_n hx hb d_MO_part_53 rfl (lv_at hl 1 rfl) ?_
        refine va_get (D := D) (ci := 5) (v := .int (iI (x 13 0))) (C := R_MO) (T := T_MO) (N := 28) hx hb hT lays_MO hown hK hP 0 rfl rfl 6 (by decide) (hT _ tw_642) (fun _ h9 => h9) rfl d_MO_part_54 ?_
        refine cx_bald (g := iF (x 0)) hx hb hK hP 1 1 rfl rfl (by omega) (by omega) d_MO_part_57 ?_
        have hc57 := hC.1 (x 13 0)
        refine lv_iload_n hx hb d_MO_part_58 rfl (lv_at hl 0 rfl) ?_
        refine lv_iand hx hb d_MO_part_59 ?_
        refine cx_eq (bt_c48 hcB) ?_
        refine lv_aload_n hx hb d_MO_part_60 rfl (lv_at hl 1 rfl) ?_
        refine va_get (D := D) (ci := 5) (v := .ref (q 21)) (C := R_MO) (T := T_MO) (N := 28) hx hb hT lays_MO hown hK hP 0 rfl rfl 2 (by decide) (hT _ tw_638) (fun _ h9 => h9) rfl d_MO_part_61 ?_
        refine lv_aload_n hx hb d_MO_part_64 rfl (lv_at hl 1 rfl) ?_
        refine va_get (D := D) (ci := 5) (v := .int (iI (x 12 0))) (C := R_MO) (T := T_MO) (N := 28) hx hb hT lays_MO hown hK hP 0 rfl rfl 5 (by decide) (hT _ tw_641) (fun _ h9 => h9) rfl d_MO_part_65 ?_
        refine cx_bald (g := iF (x 0)) hx hb hK hP 1 1 rfl rfl (by omega) (by omega) d_MO_part_68 ?_
        have hc68 := hC.1 (x 12 0)
        refine cx_bipush hx hb d_MO_part_69 rfl ?_
        refine lv_iload_n hx hb d_MO_part_71 rfl (lv_at hl 0 rfl) ?_
        refine cx_isub hx hb d_MO_part_72 ?_
        refine lv_iand hx hb d_MO_part_73 ?_
        refine cx_eq (show iI (x 0 (x 12 0)) &&& iI (63 - 48) = iI (x 0 (x 12 0) % 16) from bt_c15 hcA) ?_
        refine lv_ior hx hb d_MO_part_74 ?_
        refine cx_eq (bt_or1 hcB hcA) ?_
        have hpb := pbt_in 15 hcB hcA
        refine lv_i2b (v := iI (pbt 15 (x 0 (x 13 0)) (x 0 (x 12 0)))) hx hb d_MO_part_75 (i2b_ok (by omega)) ?_
        refine cx_bast (g := iF (x 0)) (g' := iF (fu (x 0) (x 13 0) (pbt 15 (x 0 (x 13 0)) (x 0 (x 12 0))))) hx hb hK hP hD hS 1 1 rfl rfl (by omega) (by omega) (by omega) (fun j => iF_put j) d_MO_part_76 (fun H locs hP hD hS => ?_)
        have hP : va_P D vwCl (moW T q n (fu (x 0) (x 13 0) (pbt 15 (x 0 (x 13 0)) (x 0 (x 12 0)))) (x 1) (mkF (x 2) (x 18 0)) (cdF (x 2) (x 18 0)) (x 3) (x 4) (x 11 0) (x 12 0) (x 13 0) (x 14 0) (x 15 0) (x 16 0) (x 17 0) (x 18 0) (x 19 0) (x 20 0) (x 21 0) (x 22 0) (y 31 0) (y 32 0) (y 33 0) (y 34 0) (y 35 0) (y 36 0) (y 37) (y 38) (y 39)) H := hP
        have hD : va_D A (moW T q n (fu (x 0) (x 13 0) (pbt 15 (x 0 (x 13 0)) (x 0 (x 12 0)))) (x 1) (mkF (x 2) (x 18 0)) (cdF (x 2) (x 18 0)) (x 3) (x 4) (x 11 0) (x 12 0) (x 13 0) (x 14 0) (x 15 0) (x 16 0) (x 17 0) (x 18 0) (x 19 0) (x 20 0) (x 21 0) (x 22 0) (y 31 0) (y 32 0) (y 33 0) (y 34 0) (y 35 0) (y 36 0) (y 37) (y 38) (y 39)) := hD
        have hC : okC (fu (x 0) (x 13 0) (pbt 15 (x 0 (x 13 0)) (x 0 (x 12 0)))) (x 1) := okC_fu hC (by omega)
        refine lv_aload_n hx hb d_MO_part_77 rfl (lv_at hl 1 rfl) ?_
        refine lv_dup hx hb d_MO_part_78 rfl ?_
        refine va_get (D := D) (ci := 5) (v := .int (iI (x 12 0))) (C := R_MO) (T := T_MO) (N := 28) hx hb hT lays_MO hown hK hP 0 rfl rfl 5 (by decide) (hT _ tw_641) (fun _ h9 => h9) rfl d_MO_part_79 ?_
        refine cx_iconst hx hb d_MO_part_82 ?_
        refine cx_isub hx hb d_MO_part_83 ?_
        refine va_put (D := D) (ci := 5) (v := .int (iI ((x 12 0) - 1))) (ty := .int) (C := R_MO) (T := T_MO) (N := 28) hx hb hT lays_MO t_MO t_MO_ok n_MO hown hK hP hD hS 0 rfl rfl 5 (by decide) (hT _ tw_641) (fun _ h9 => h9) rfl (by decide +kernel) rfl rfl (Nat.le_of_ble_eq_true rfl) d_MO_part_84 (fun H locs hP hD hS => ?_)
        have hP : va_P D vwCl (moW T q n (fu (x 0) (x 13 0) (pbt 15 (x 0 (x 13 0)) (x 0 (x 12 0)))) (x 1) (mkF (x 2) (x 18 0)) (cdF (x 2) (x 18 0)) (x 3) (x 4) (x 11 0) ((x 12 0) - 1) (x 13 0) (x 14 0) (x 15 0) (x 16 0) (x 17 0) (x 18 0) (x 19 0) (x 20 0) (x 21 0) (x 22 0) (y 31 0) (y 32 0) (y 33 0) (y 34 0) (y 35 0) (y 36 0) (y 37) (y 38) (y 39)) H := hP
        have hD : va_D A (moW T q n (fu (x 0) (x 13 0) (pbt 15 (x 0 (x 13 0)) (x 0 (x 12 0)))) (x 1) (mkF (x 2) (x 18 0)) (cdF (x 2) (x 18 0)) (x 3) (x 4) (x 11 0) ((x 12 0) - 1) (x 13 0) (x 14 0) (x 15 0) (x 16 0) (x 17 0) (x 18 0) (x 19 0) (x 20 0) (x 21 0) (x 22 0) (y 31 0) (y 32 0) (y 33 0) (y 34 0) (y 35 0) (y 36 0) (y 37) (y 38) (y 39)) := hD
        refine lv_aload_n hx hb d_MO_part_87 rfl (lv_at hl 1 rfl) ?_
        refine lv_dup hx hb d_MO_part_88 rfl ?_
        refine va_get (D := D) (ci := 5) (v := .int (iI (x 13 0))) (C := R_MO) (T := T_MO) (N := 28) hx hb hT lays_MO hown hK hP 0 rfl rfl 6 (by decide) (hT _ tw_642) (fun _ h9 => h9) rfl d_MO_part_89 ?_
        refine cx_iconst hx hb d_MO_part_92 ?_
        refine cx_isub hx hb d_MO_part_93 ?_
        refine va_put (D := D) (ci := 5) (v := .int (iI ((x 13 0) - 1))) (ty := .int) (C := R_MO) (T := T_MO) (N := 28) hx hb hT lays_MO t_MO t_MO_ok n_MO hown hK hP hD hS 0 rfl rfl 6 (by decide) (hT _ tw_642) (fun _ h9 => h9) rfl (by decide +kernel) rfl rfl (Nat.le_of_ble_eq_true rfl) d_MO_part_94 (fun H locs hP hD hS => ?_)
        have hP : va_P D vwCl (moW T q n (fu (x 0) (x 13 0) (pbt 15 (x 0 (x 13 0)) (x 0 (x 12 0)))) (x 1) (mkF (x 2) (x 18 0)) (cdF (x 2) (x 18 0)) (x 3) (x 4) (x 11 0) ((x 12 0) - 1) ((x 13 0) - 1) (x 14 0) (x 15 0) (x 16 0) (x 17 0) (x 18 0) (x 19 0) (x 20 0) (x 21 0) (x 22 0) (y 31 0) (y 32 0) (y 33 0) (y 34 0) (y 35 0) (y 36 0) (y 37) (y 38) (y 39)) H := hP
        have hD : va_D A (moW T q n (fu (x 0) (x 13 0) (pbt 15 (x 0 (x 13 0)) (x 0 (x 12 0)))) (x 1) (mkF (x 2) (x 18 0)) (cdF (x 2) (x 18 0)) (x 3) (x 4) (x 11 0) ((x 12 0) - 1) ((x 13 0) - 1) (x 14 0) (x 15 0) (x 16 0) (x 17 0) (x 18 0) (x 19 0) (x 20 0) (x 21 0) (x 22 0) (y 31 0) (y 32 0) (y 33 0) (y 34 0) (y 35 0) (y 36 0) (y 37) (y 38) (y 39)) := hD
        refine cx_iconst hx hb d_MO_part_97 ?_
        exact hret ((up (up (up x 0 (fu (x 0) (x 13 0) (pbt 15 (x 0 (x 13 0)) (x 0 (x 12 0))))) 12 (cst ((x 12 0) - 1))) 13 (cst ((x 13 0) - 1)), y) : SX × SX) (⟨pst_of (by unfold bitS; rw [if_pos (by omega), if_pos h30]) (show okX (up (up (up x 0 (fu (x 0) (x 13 0) (pbt 15 (x 0 (x 13 0)) (x 0 (x 12 0))))) 12 (cst ((x 12 0) - 1))) 13 (cst ((x 13 0) - 1))) from ⟨hC, (show okR (x 11 0) ((x 12 0) - 1) ((x 13 0) - 1) (x 14 0) (x 15 0) (x 16 0) (x 17 0) (x 18 0) (x 19 0) (x 20 0) by have h8 := hX.2.1; unfold okR at h8 ⊢; omega), hX.2.2⟩), ⟨rfl, rfl⟩⟩) hP hD hS d_MO_part_98
    · refine cx_if_ne (tgt := 24) hx hb d_MO_part_19 rfl (by omega) (fun h0 => absurd h0 (by decide)) (fun _ => ?_)
      refine cx_iconst hx hb d_MO_part_22 ?_
      exact hret ((x, y) : SX × SX) (⟨pst_of (by unfold bitS; rw [if_neg (by omega)]) hX, ⟨rfl, rfl⟩⟩) hP hD hS d_MO_part_23
  · refine cx_if_eq (tgt := 22) hx hb d_MO_part_8 rfl (by omega) (fun _ => ?_) (fun h0 => absurd h0 (by decide))
    refine cx_iconst hx hb d_MO_part_22 ?_
    exact hret ((x, y) : SX × SX) (⟨pst_of (by unfold bitS; rw [if_neg (by omega)]) hX, ⟨rfl, rfl⟩⟩) hP hD hS d_MO_part_23

set_option maxHeartbeats 4000000 in
set_option maxRecDepth 100000 in
theorem c_MO_marks (l : Launch) (D : va_G) (T : Nat → ClassId) (sz : Nat) (q : Nat → Nat) (n : Nat) (hn : 400 ≤ n ∧ n ≤ 2000) (x y : SX) (hX : okX x) (hY : (0 ≤ y 32 0 ∧ y 32 0 < 64) ∧ (1 ≤ y 33 0 ∧ y 33 0 ≤ 8)) : MI l y_MO_marks (wY y_MO_marks b_MO_marks 1 (some .int)) (rmK 1) D vwCl (tyL T) nwL sz [.ref (q 20)] (moW T q n (x 0) (x 1) (mkF (x 2) (x 18 0)) (cdF (x 2) (x 18 0)) (x 3) (x 4) (x 11 0) (x 12 0) (x 13 0) (x 14 0) (x 15 0) (x 16 0) (x 17 0) (x 18 0) (x 19 0) (x 20 0) (x 21 0) (x 22 0) (y 31 0) (y 32 0) (y 33 0) (y 34 0) (y 35 0) (y 36 0) (y 37) (y 38) (y 39)) (fun r (u : SX × SX) => pst (mrkS n (if y 32 0 = 27 then 1 else 0) x) r u.1 ∧ (u.2 31 = y 31 ∧ u.2 33 = y 33)) (fun (u : SX × SX) => moX T q n u.1 u.2) := by
  refine cx_inI (by decide) rfl (Nat.le_of_ble_eq_true rfl) ?_
  intro p e s m below meth cd ls A Q hx hb hml hT hown hret hP hK hD hN hS hA hl
  have hown : s.vm.findClass R_MO = some m.cls := hown
  have hl : lv_has ls 1 [(0, .ref (q 20))] := hl
  have hC := hX.1
  have hR0 := hX.2.1
  have hF := hX.2.2
  unfold okR at hR0
  refine lv_aload_n hx hb d_MO_marks_0 rfl (lv_at hl 0 rfl) ?_
  refine lv_aload_n hx hb d_MO_marks_1 rfl (lv_at hl 0 rfl) ?_
  refine va_get (D := D) (ci := 5) (v := .int (iI (x 12 0))) (C := R_MO) (T := T_MO) (N := 28) hx hb hT lays_MO hown hK hP 0 rfl rfl 5 (by decide) (hT _ tw_641) (fun _ h9 => h9) rfl d_MO_marks_2 ?_
  refine cx_cI (ws2 := fun _ => moW T q n (x 0) (x 1) (mkF (x 2) (x 18 0)) (cdF (x 2) (x 18 0)) (x 3) (x 4) (x 11 0) (x 12 0) (x 13 0) (x 14 0) (x 15 0) (x 16 0) (x 17 0) (x 18 0) (x 19 0) (x 20 0) (x 21 0) (x 22 0) (y 31 0) (y 32 0) (y 33 0) (y 34 0) (y 35 0) (y 36 0) (y 37) (y 38) (y 39)) (cx_rV (q0 := 0) (ci := 5) (rest := []) (As := [.int (iI (x 12 0))]) hx hb hml hown hT hK hN hP hD hl.1 tw_731 k_MO_is (c_MO_is l D T s.heap.size q n hn x y hX (x 12 0) (by omega)) ⟨by decide, by decide⟩ ⟨rfl, rfl⟩ [0, 1, 2, 3, 4, 5, 6, 7, 8, 9] (by decide) rfl rfl rfl rfl rfl (Nat.le_of_ble_eq_true rfl) ⟨Nat.zero_le _, Nat.zero_le _⟩ d_MO_marks_5) hP hD hS hA [0, 1, 2, 3, 4, 5, 6, 7, 8, 9] [] [0, 1, 2, 3, 4, 5, 6, 7, 8, 9] rfl (wr := []) rfl (by decide) (by decide) (fun _ => rfl) (by decide) (fun r u_ H locs hq5 hP hD hS => ?_)
  rcases hq5 with ⟨rfl, h5⟩ | ⟨rfl, h5⟩
  · refine cx_if_eq (tgt := 22) hx hb d_MO_marks_8 rfl (by omega) (fun h0 => absurd h0 (by decide)) (fun _ => ?_)
    refine lv_aload_n hx hb d_MO_marks_11 rfl (lv_at hl 0 rfl) ?_
    refine lv_aload_n hx hb d_MO_marks_12 rfl (lv_at hl 0 rfl) ?_
    refine va_get (D := D) (ci := 5) (v := .int (iI (x 13 0))) (C := R_MO) (T := T_MO) (N := 28) hx hb hT lays_MO hown hK hP 0 rfl rfl 6 (by decide) (hT _ tw_642) (fun _ h9 => h9) rfl d_MO_marks_13 ?_
    refine cx_cI (ws2 := fun _ => moW T q n (x 0) (x 1) (mkF (x 2) (x 18 0)) (cdF (x 2) (x 18 0)) (x 3) (x 4) (x 11 0) (x 12 0) (x 13 0) (x 14 0) (x 15 0) (x 16 0) (x 17 0) (x 18 0) (x 19 0) (x 20 0) (x 21 0) (x 22 0) (y 31 0) (y 32 0) (y 33 0) (y 34 0) (y 35 0) (y 36 0) (y 37) (y 38) (y 39)) (cx_rV (q0 := 0) (ci := 5) (rest := []) (As := [.int (iI (x 13 0))]) hx hb hml hown hT hK hN hP hD hl.1 tw_731 k_MO_is (c_MO_is l D T H.size q n hn x y hX (x 13 0) (by omega)) ⟨by decide, by decide⟩ ⟨rfl, rfl⟩ [0, 1, 2, 3, 4, 5, 6, 7, 8, 9] (by decide) rfl rfl rfl rfl rfl (Nat.le_of_ble_eq_true rfl) ⟨Nat.zero_le _, Nat.zero_le _⟩ d_MO_marks_16) hP hD hS hA [0, 1, 2, 3, 4, 5, 6, 7, 8, 9] [] [0, 1, 2, 3, 4, 5, 6, 7, 8, 9] rfl (wr := []) rfl (by decide) (by decide) (fun _ => rfl) (by decide) (fun r u_ H locs hq16 hP hD hS => ?_)
    rcases hq16 with ⟨rfl, h16⟩ | ⟨rfl, h16⟩
    · refine cx_if_ne (tgt := 24) hx hb d_MO_marks_19 rfl (by omega) (fun _ => ?_) (fun h0 => absurd h0 (by decide))
      refine lv_aload_n hx hb d_MO_marks_24 rfl (lv_at hl 0 rfl) ?_
      refine va_get (D := D) (ci := 5) (v := .ref (q 22)) (C := R_MO) (T := T_MO) (N := 28) hx hb hT lays_MO hown hK hP 0 rfl rfl 3 (by decide) (hT _ tw_639) (fun _ h9 => h9) rfl d_MO_marks_25 ?_
      refine lv_aload_n hx hb d_MO_marks_28 rfl (lv_at hl 0 rfl) ?_
      refine va_get (D := D) (ci := 5) (v := .int (iI (x 12 0))) (C := R_MO) (T := T_MO) (N := 28) hx hb hT lays_MO hown hK hP 0 rfl rfl 5 (by decide) (hT _ tw_641) (fun _ h9 => h9) rfl d_MO_marks_29 ?_
      refine lv_aload_n hx hb d_MO_marks_32 rfl (lv_at hl 0 rfl) ?_
      refine va_get (D := D) (ci := 5) (v := .int (iI (y 32 0))) (C := R_MO) (T := T_MO) (N := 28) hx hb hT lays_MO hown hK hP 0 rfl rfl 12 (by decide) (hT _ tw_648) (fun _ h9 => h9) rfl d_MO_marks_33 ?_
      refine cx_bipush hx hb d_MO_marks_36 rfl ?_
      refine cx_icmp_ne (tgt := 45) hx hb d_MO_marks_38 rfl (by omega) (by omega) (fun h38 => ?_) (fun h38 => ?_)
      · refine cx_iconst hx hb d_MO_marks_45 ?_
        refine cx_zast (g := iF (x 1)) (g' := iF (fu (x 1) (x 12 0) (0))) hx hb hK hP hD hS 2 2 rfl rfl (by omega) (by omega) (by omega) (fun j => iF_put j) d_MO_marks_46 (fun H locs hP hD hS => ?_)
        have hP : va_P D vwCl (moW T q n (x 0) (fu (x 1) (x 12 0) (0)) (mkF (x 2) (x 18 0)) (cdF (x 2) (x 18 0)) (x 3) (x 4) (x 11 0) (x 12 0) (x 13 0) (x 14 0) (x 15 0) (x 16 0) (x 17 0) (x 18 0) (x 19 0) (x 20 0) (x 21 0) (x 22 0) (y 31 0) (y 32 0) (y 33 0) (y 34 0) (y 35 0) (y 36 0) (y 37) (y 38) (y 39)) H := hP
        have hD : va_D A (moW T q n (x 0) (fu (x 1) (x 12 0) (0)) (mkF (x 2) (x 18 0)) (cdF (x 2) (x 18 0)) (x 3) (x 4) (x 11 0) (x 12 0) (x 13 0) (x 14 0) (x 15 0) (x 16 0) (x 17 0) (x 18 0) (x 19 0) (x 20 0) (x 21 0) (x 22 0) (y 31 0) (y 32 0) (y 33 0) (y 34 0) (y 35 0) (y 36 0) (y 37) (y 38) (y 39)) := hD
        have hC : okC (x 0) (fu (x 1) (x 12 0) (0)) := okC_mk hC (by omega)
        refine lv_aload_n hx hb d_MO_marks_47 rfl (lv_at hl 0 rfl) ?_
        refine va_get (D := D) (ci := 5) (v := .ref (q 22)) (C := R_MO) (T := T_MO) (N := 28) hx hb hT lays_MO hown hK hP 0 rfl rfl 3 (by decide) (hT _ tw_639) (fun _ h9 => h9) rfl d_MO_marks_48 ?_
        refine lv_aload_n hx hb d_MO_marks_51 rfl (lv_at hl 0 rfl) ?_
        refine va_get (D := D) (ci := 5) (v := .int (iI (x 13 0))) (C := R_MO) (T := T_MO) (N := 28) hx hb hT lays_MO hown hK hP 0 rfl rfl 6 (by decide) (hT _ tw_642) (fun _ h9 => h9) rfl d_MO_marks_52 ?_
        refine lv_aload_n hx hb d_MO_marks_55 rfl (lv_at hl 0 rfl) ?_
        refine va_get (D := D) (ci := 5) (v := .int (iI (y 32 0))) (C := R_MO) (T := T_MO) (N := 28) hx hb hT lays_MO hown hK hP 0 rfl rfl 12 (by decide) (hT _ tw_648) (fun _ h9 => h9) rfl d_MO_marks_56 ?_
        refine cx_bipush hx hb d_MO_marks_59 rfl ?_
        refine cx_icmp_ne (tgt := 68) hx hb d_MO_marks_61 rfl (by omega) (by omega) (fun h61 => ?_) (fun h61 => ?_)
        · refine cx_iconst hx hb d_MO_marks_68 ?_
          refine cx_zast (g := iF (fu (x 1) (x 12 0) (0))) (g' := iF (fu (fu (x 1) (x 12 0) (0)) (x 13 0) (0))) hx hb hK hP hD hS 2 2 rfl rfl (by omega) (by omega) (by omega) (fun j => iF_put j) d_MO_marks_69 (fun H locs hP hD hS => ?_)
          have hP : va_P D vwCl (moW T q n (x 0) (fu (fu (x 1) (x 12 0) (0)) (x 13 0) (0)) (mkF (x 2) (x 18 0)) (cdF (x 2) (x 18 0)) (x 3) (x 4) (x 11 0) (x 12 0) (x 13 0) (x 14 0) (x 15 0) (x 16 0) (x 17 0) (x 18 0) (x 19 0) (x 20 0) (x 21 0) (x 22 0) (y 31 0) (y 32 0) (y 33 0) (y 34 0) (y 35 0) (y 36 0) (y 37) (y 38) (y 39)) H := hP
          have hD : va_D A (moW T q n (x 0) (fu (fu (x 1) (x 12 0) (0)) (x 13 0) (0)) (mkF (x 2) (x 18 0)) (cdF (x 2) (x 18 0)) (x 3) (x 4) (x 11 0) (x 12 0) (x 13 0) (x 14 0) (x 15 0) (x 16 0) (x 17 0) (x 18 0) (x 19 0) (x 20 0) (x 21 0) (x 22 0) (y 31 0) (y 32 0) (y 33 0) (y 34 0) (y 35 0) (y 36 0) (y 37) (y 38) (y 39)) := hD
          have hC : okC (x 0) (fu (fu (x 1) (x 12 0) (0)) (x 13 0) (0)) := okC_mk hC (by omega)
          refine lv_aload_n hx hb d_MO_marks_70 rfl (lv_at hl 0 rfl) ?_
          refine lv_dup hx hb d_MO_marks_71 rfl ?_
          refine va_get (D := D) (ci := 5) (v := .int (iI (x 12 0))) (C := R_MO) (T := T_MO) (N := 28) hx hb hT lays_MO hown hK hP 0 rfl rfl 5 (by decide) (hT _ tw_641) (fun _ h9 => h9) rfl d_MO_marks_72 ?_
          refine cx_iconst hx hb d_MO_marks_75 ?_
          refine cx_isub hx hb d_MO_marks_76 ?_
          refine va_put (D := D) (ci := 5) (v := .int (iI ((x 12 0) - 1))) (ty := .int) (C := R_MO) (T := T_MO) (N := 28) hx hb hT lays_MO t_MO t_MO_ok n_MO hown hK hP hD hS 0 rfl rfl 5 (by decide) (hT _ tw_641) (fun _ h9 => h9) rfl (by decide +kernel) rfl rfl (Nat.le_of_ble_eq_true rfl) d_MO_marks_77 (fun H locs hP hD hS => ?_)
          have hP : va_P D vwCl (moW T q n (x 0) (fu (fu (x 1) (x 12 0) (0)) (x 13 0) (0)) (mkF (x 2) (x 18 0)) (cdF (x 2) (x 18 0)) (x 3) (x 4) (x 11 0) ((x 12 0) - 1) (x 13 0) (x 14 0) (x 15 0) (x 16 0) (x 17 0) (x 18 0) (x 19 0) (x 20 0) (x 21 0) (x 22 0) (y 31 0) (y 32 0) (y 33 0) (y 34 0) (y 35 0) (y 36 0) (y 37) (y 38) (y 39)) H := hP
          have hD : va_D A (moW T q n (x 0) (fu (fu (x 1) (x 12 0) (0)) (x 13 0) (0)) (mkF (x 2) (x 18 0)) (cdF (x 2) (x 18 0)) (x 3) (x 4) (x 11 0) ((x 12 0) - 1) (x 13 0) (x 14 0) (x 15 0) (x 16 0) (x 17 0) (x 18 0) (x 19 0) (x 20 0) (x 21 0) (x 22 0) (y 31 0) (y 32 0) (y 33 0) (y 34 0) (y 35 0) (y 36 0) (y 37) (y 38) (y 39)) := hD
          refine lv_aload_n hx hb d_MO_marks_80 rfl (lv_at hl 0 rfl) ?_
          refine lv_dup hx hb d_MO_marks_81 rfl ?_
          refine va_get (D := D) (ci := 5) (v := .int (iI (x 13 0))) (C := R_MO) (T := T_MO) (N := 28) hx hb hT lays_MO hown hK hP 0 rfl rfl 6 (by decide) (hT _ tw_642) (fun _ h9 => h9) rfl d_MO_marks_82 ?_
          refine cx_iconst hx hb d_MO_marks_85 ?_
          refine cx_isub hx hb d_MO_marks_86 ?_
          refine va_put (D := D) (ci := 5) (v := .int (iI ((x 13 0) - 1))) (ty := .int) (C := R_MO) (T := T_MO) (N := 28) hx hb hT lays_MO t_MO t_MO_ok n_MO hown hK hP hD hS 0 rfl rfl 6 (by decide) (hT _ tw_642) (fun _ h9 => h9) rfl (by decide +kernel) rfl rfl (Nat.le_of_ble_eq_true rfl) d_MO_marks_87 (fun H locs hP hD hS => ?_)
          have hP : va_P D vwCl (moW T q n (x 0) (fu (fu (x 1) (x 12 0) (0)) (x 13 0) (0)) (mkF (x 2) (x 18 0)) (cdF (x 2) (x 18 0)) (x 3) (x 4) (x 11 0) ((x 12 0) - 1) ((x 13 0) - 1) (x 14 0) (x 15 0) (x 16 0) (x 17 0) (x 18 0) (x 19 0) (x 20 0) (x 21 0) (x 22 0) (y 31 0) (y 32 0) (y 33 0) (y 34 0) (y 35 0) (y 36 0) (y 37) (y 38) (y 39)) H := hP
          have hD : va_D A (moW T q n (x 0) (fu (fu (x 1) (x 12 0) (0)) (x 13 0) (0)) (mkF (x 2) (x 18 0)) (cdF (x 2) (x 18 0)) (x 3) (x 4) (x 11 0) ((x 12 0) - 1) ((x 13 0) - 1) (x 14 0) (x 15 0) (x 16 0) (x 17 0) (x 18 0) (x 19 0) (x 20 0) (x 21 0) (x 22 0) (y 31 0) (y 32 0) (y 33 0) (y 34 0) (y 35 0) (y 36 0) (y 37) (y 38) (y 39)) := hD
          refine cx_iconst hx hb d_MO_marks_90 ?_
          exact hret ((up (up (up x 1 (fu (fu (x 1) (x 12 0) (0)) (x 13 0) (0))) 12 (cst ((x 12 0) - 1))) 13 (cst ((x 13 0) - 1)), y) : SX × SX) (⟨pst_of (by first | (exfalso; omega) | (unfold mrkS; rw [if_pos (by omega), if_neg h38])) (show okX (up (up (up x 1 (fu (fu (x 1) (x 12 0) (0)) (x 13 0) (0))) 12 (cst ((x 12 0) - 1))) 13 (cst ((x 13 0) - 1))) from ⟨hC, (show okR (x 11 0) ((x 12 0) - 1) ((x 13 0) - 1) (x 14 0) (x 15 0) (x 16 0) (x 17 0) (x 18 0) (x 19 0) (x 20 0) by have h8 := hX.2.1; unfold okR at h8 ⊢; omega), hX.2.2⟩), ⟨rfl, rfl⟩⟩) hP hD hS d_MO_marks_91
        · refine cx_iconst hx hb d_MO_marks_64 ?_
          refine lv_goto (tgt := 69) hx hb d_MO_marks_65 rfl ?_
          refine cx_zast (g := iF (fu (x 1) (x 12 0) (0))) (g' := iF (fu (fu (x 1) (x 12 0) (0)) (x 13 0) (1))) hx hb hK hP hD hS 2 2 rfl rfl (by omega) (by omega) (by omega) (fun j => iF_put j) d_MO_marks_69 (fun H locs hP hD hS => ?_)
          have hP : va_P D vwCl (moW T q n (x 0) (fu (fu (x 1) (x 12 0) (0)) (x 13 0) (1)) (mkF (x 2) (x 18 0)) (cdF (x 2) (x 18 0)) (x 3) (x 4) (x 11 0) (x 12 0) (x 13 0) (x 14 0) (x 15 0) (x 16 0) (x 17 0) (x 18 0) (x 19 0) (x 20 0) (x 21 0) (x 22 0) (y 31 0) (y 32 0) (y 33 0) (y 34 0) (y 35 0) (y 36 0) (y 37) (y 38) (y 39)) H := hP
          have hD : va_D A (moW T q n (x 0) (fu (fu (x 1) (x 12 0) (0)) (x 13 0) (1)) (mkF (x 2) (x 18 0)) (cdF (x 2) (x 18 0)) (x 3) (x 4) (x 11 0) (x 12 0) (x 13 0) (x 14 0) (x 15 0) (x 16 0) (x 17 0) (x 18 0) (x 19 0) (x 20 0) (x 21 0) (x 22 0) (y 31 0) (y 32 0) (y 33 0) (y 34 0) (y 35 0) (y 36 0) (y 37) (y 38) (y 39)) := hD
          have hC : okC (x 0) (fu (fu (x 1) (x 12 0) (0)) (x 13 0) (1)) := okC_mk hC (by omega)
          refine lv_aload_n hx hb d_MO_marks_70 rfl (lv_at hl 0 rfl) ?_
          refine lv_dup hx hb d_MO_marks_71 rfl ?_
          refine va_get (D := D) (ci := 5) (v := .int (iI (x 12 0))) (C := R_MO) (T := T_MO) (N := 28) hx hb hT lays_MO hown hK hP 0 rfl rfl 5 (by decide) (hT _ tw_641) (fun _ h9 => h9) rfl d_MO_marks_72 ?_
          refine cx_iconst hx hb d_MO_marks_75 ?_
          refine cx_isub hx hb d_MO_marks_76 ?_
          refine va_put (D := D) (ci := 5) (v := .int (iI ((x 12 0) - 1))) (ty := .int) (C := R_MO) (T := T_MO) (N := 28) hx hb hT lays_MO t_MO t_MO_ok n_MO hown hK hP hD hS 0 rfl rfl 5 (by decide) (hT _ tw_641) (fun _ h9 => h9) rfl (by decide +kernel) rfl rfl (Nat.le_of_ble_eq_true rfl) d_MO_marks_77 (fun H locs hP hD hS => ?_)
          have hP : va_P D vwCl (moW T q n (x 0) (fu (fu (x 1) (x 12 0) (0)) (x 13 0) (1)) (mkF (x 2) (x 18 0)) (cdF (x 2) (x 18 0)) (x 3) (x 4) (x 11 0) ((x 12 0) - 1) (x 13 0) (x 14 0) (x 15 0) (x 16 0) (x 17 0) (x 18 0) (x 19 0) (x 20 0) (x 21 0) (x 22 0) (y 31 0) (y 32 0) (y 33 0) (y 34 0) (y 35 0) (y 36 0) (y 37) (y 38) (y 39)) H := hP
          have hD : va_D A (moW T q n (x 0) (fu (fu (x 1) (x 12 0) (0)) (x 13 0) (1)) (mkF (x 2) (x 18 0)) (cdF (x 2) (x 18 0)) (x 3) (x 4) (x 11 0) ((x 12 0) - 1) (x 13 0) (x 14 0) (x 15 0) (x 16 0) (x 17 0) (x 18 0) (x 19 0) (x 20 0) (x 21 0) (x 22 0) (y 31 0) (y 32 0) (y 33 0) (y 34 0) (y 35 0) (y 36 0) (y 37) (y 38) (y 39)) := hD
          refine lv_aload_n hx hb d_MO_marks_80 rfl (lv_at hl 0 rfl) ?_
          refine lv_dup hx hb d_MO_marks_81 rfl ?_
          refine va_get (D := D) (ci := 5) (v := .int (iI (x 13 0))) (C := R_MO) (T := T_MO) (N := 28) hx hb hT lays_MO hown hK hP 0 rfl rfl 6 (by decide) (hT _ tw_642) (fun _ h9 => h9) rfl d_MO_marks_82 ?_
          refine cx_iconst hx hb d_MO_marks_85 ?_
          refine cx_isub hx hb d_MO_marks_86 ?_
          refine va_put (D := D) (ci := 5) (v := .int (iI ((x 13 0) - 1))) (ty := .int) (C := R_MO) (T := T_MO) (N := 28) hx hb hT lays_MO t_MO t_MO_ok n_MO hown hK hP hD hS 0 rfl rfl 6 (by decide) (hT _ tw_642) (fun _ h9 => h9) rfl (by decide +kernel) rfl rfl (Nat.le_of_ble_eq_true rfl) d_MO_marks_87 (fun H locs hP hD hS => ?_)
          have hP : va_P D vwCl (moW T q n (x 0) (fu (fu (x 1) (x 12 0) (0)) (x 13 0) (1)) (mkF (x 2) (x 18 0)) (cdF (x 2) (x 18 0)) (x 3) (x 4) (x 11 0) ((x 12 0) - 1) ((x 13 0) - 1) (x 14 0) (x 15 0) (x 16 0) (x 17 0) (x 18 0) (x 19 0) (x 20 0) (x 21 0) (x 22 0) (y 31 0) (y 32 0) (y 33 0) (y 34 0) (y 35 0) (y 36 0) (y 37) (y 38) (y 39)) H := hP
          have hD : va_D A (moW T q n (x 0) (fu (fu (x 1) (x 12 0) (0)) (x 13 0) (1)) (mkF (x 2) (x 18 0)) (cdF (x 2) (x 18 0)) (x 3) (x 4) (x 11 0) ((x 12 0) - 1) ((x 13 0) - 1) (x 14 0) (x 15 0) (x 16 0) (x 17 0) (x 18 0) (x 19 0) (x 20 0) (x 21 0) (x 22 0) (y 31 0) (y 32 0) (y 33 0) (y 34 0) (y 35 0) (y 36 0) (y 37) (y 38) (y 39)) := hD
          refine cx_iconst hx hb d_MO_marks_90 ?_
          exact hret ((up (up (up x 1 (fu (fu (x 1) (x 12 0) (0)) (x 13 0) (1))) 12 (cst ((x 12 0) - 1))) 13 (cst ((x 13 0) - 1)), y) : SX × SX) (⟨pst_of (by first | (exfalso; omega) | (unfold mrkS; rw [if_pos (by omega), if_pos h38])) (show okX (up (up (up x 1 (fu (fu (x 1) (x 12 0) (0)) (x 13 0) (1))) 12 (cst ((x 12 0) - 1))) 13 (cst ((x 13 0) - 1))) from ⟨hC, (show okR (x 11 0) ((x 12 0) - 1) ((x 13 0) - 1) (x 14 0) (x 15 0) (x 16 0) (x 17 0) (x 18 0) (x 19 0) (x 20 0) by have h8 := hX.2.1; unfold okR at h8 ⊢; omega), hX.2.2⟩), ⟨rfl, rfl⟩⟩) hP hD hS d_MO_marks_91
      · refine cx_iconst hx hb d_MO_marks_41 ?_
        refine lv_goto (tgt := 46) hx hb d_MO_marks_42 rfl ?_
        refine cx_zast (g := iF (x 1)) (g' := iF (fu (x 1) (x 12 0) (1))) hx hb hK hP hD hS 2 2 rfl rfl (by omega) (by omega) (by omega) (fun j => iF_put j) d_MO_marks_46 (fun H locs hP hD hS => ?_)
        have hP : va_P D vwCl (moW T q n (x 0) (fu (x 1) (x 12 0) (1)) (mkF (x 2) (x 18 0)) (cdF (x 2) (x 18 0)) (x 3) (x 4) (x 11 0) (x 12 0) (x 13 0) (x 14 0) (x 15 0) (x 16 0) (x 17 0) (x 18 0) (x 19 0) (x 20 0) (x 21 0) (x 22 0) (y 31 0) (y 32 0) (y 33 0) (y 34 0) (y 35 0) (y 36 0) (y 37) (y 38) (y 39)) H := hP
        have hD : va_D A (moW T q n (x 0) (fu (x 1) (x 12 0) (1)) (mkF (x 2) (x 18 0)) (cdF (x 2) (x 18 0)) (x 3) (x 4) (x 11 0) (x 12 0) (x 13 0) (x 14 0) (x 15 0) (x 16 0) (x 17 0) (x 18 0) (x 19 0) (x 20 0) (x 21 0) (x 22 0) (y 31 0) (y 32 0) (y 33 0) (y 34 0) (y 35 0) (y 36 0) (y 37) (y 38) (y 39)) := hD
        have hC : okC (x 0) (fu (x 1) (x 12 0) (1)) := okC_mk hC (by omega)
        refine lv_aload_n hx hb d_MO_marks_47 rfl (lv_at hl 0 rfl) ?_
        refine va_get (D := D) (ci := 5) (v := .ref (q 22)) (C := R_MO) (T := T_MO) (N := 28) hx hb hT lays_MO hown hK hP 0 rfl rfl 3 (by decide) (hT _ tw_639) (fun _ h9 => h9) rfl d_MO_marks_48 ?_
        refine lv_aload_n hx hb d_MO_marks_51 rfl (lv_at hl 0 rfl) ?_
        refine va_get (D := D) (ci := 5) (v := .int (iI (x 13 0))) (C := R_MO) (T := T_MO) (N := 28) hx hb hT lays_MO hown hK hP 0 rfl rfl 6 (by decide) (hT _ tw_642) (fun _ h9 => h9) rfl d_MO_marks_52 ?_
        refine lv_aload_n hx hb d_MO_marks_55 rfl (lv_at hl 0 rfl) ?_
        refine va_get (D := D) (ci := 5) (v := .int (iI (y 32 0))) (C := R_MO) (T := T_MO) (N := 28) hx hb hT lays_MO hown hK hP 0 rfl rfl 12 (by decide) (hT _ tw_648) (fun _ h9 => h9) rfl d_MO_marks_56 ?_
        refine cx_bipush hx hb d_MO_marks_59 rfl ?_
        refine cx_icmp_ne (tgt := 68) hx hb d_MO_marks_61 rfl (by omega) (by omega) (fun h61 => ?_) (fun h61 => ?_)
        · refine cx_iconst hx hb d_MO_marks_68 ?_
          refine cx_zast (g := iF (fu (x 1) (x 12 0) (1))) (g' := iF (fu (fu (x 1) (x 12 0) (1)) (x 13 0) (0))) hx hb hK hP hD hS 2 2 rfl rfl (by omega) (by omega) (by omega) (fun j => iF_put j) d_MO_marks_69 (fun H locs hP hD hS => ?_)
          have hP : va_P D vwCl (moW T q n (x 0) (fu (fu (x 1) (x 12 0) (1)) (x 13 0) (0)) (mkF (x 2) (x 18 0)) (cdF (x 2) (x 18 0)) (x 3) (x 4) (x 11 0) (x 12 0) (x 13 0) (x 14 0) (x 15 0) (x 16 0) (x 17 0) (x 18 0) (x 19 0) (x 20 0) (x 21 0) (x 22 0) (y 31 0) (y 32 0) (y 33 0) (y 34 0) (y 35 0) (y 36 0) (y 37) (y 38) (y 39)) H := hP
          have hD : va_D A (moW T q n (x 0) (fu (fu (x 1) (x 12 0) (1)) (x 13 0) (0)) (mkF (x 2) (x 18 0)) (cdF (x 2) (x 18 0)) (x 3) (x 4) (x 11 0) (x 12 0) (x 13 0) (x 14 0) (x 15 0) (x 16 0) (x 17 0) (x 18 0) (x 19 0) (x 20 0) (x 21 0) (x 22 0) (y 31 0) (y 32 0) (y 33 0) (y 34 0) (y 35 0) (y 36 0) (y 37) (y 38) (y 39)) := hD
          have hC : okC (x 0) (fu (fu (x 1) (x 12 0) (1)) (x 13 0) (0)) := okC_mk hC (by omega)
          refine lv_aload_n hx hb d_MO_marks_70 rfl (lv_at hl 0 rfl) ?_
          refine lv_dup hx hb d_MO_marks_71 rfl ?_
          refine va_get (D := D) (ci := 5) (v := .int (iI (x 12 0))) (C := R_MO) (T := T_MO) (N := 28) hx hb hT lays_MO hown hK hP 0 rfl rfl 5 (by decide) (hT _ tw_641) (fun _ h9 => h9) rfl d_MO_marks_72 ?_
          refine cx_iconst hx hb d_MO_marks_75 ?_
          refine cx_isub hx hb d_MO_marks_76 ?_
          refine va_put (D := D) (ci := 5) (v := .int (iI ((x 12 0) - 1))) (ty := .int) (C := R_MO) (T := T_MO) (N := 28) hx hb hT lays_MO t_MO t_MO_ok n_MO hown hK hP hD hS 0 rfl rfl 5 (by decide) (hT _ tw_641) (fun _ h9 => h9) rfl (by decide +kernel) rfl rfl (Nat.le_of_ble_eq_true rfl) d_MO_marks_77 (fun H locs hP hD hS => ?_)
          have hP : va_P D vwCl (moW T q n (x 0) (fu (fu (x 1) (x 12 0) (1)) (x 13 0) (0)) (mkF (x 2) (x 18 0)) (cdF (x 2) (x 18 0)) (x 3) (x 4) (x 11 0) ((x 12 0) - 1) (x 13 0) (x 14 0) (x 15 0) (x 16 0) (x 17 0) (x 18 0) (x 19 0) (x 20 0) (x 21 0) (x 22 0) (y 31 0) (y 32 0) (y 33 0) (y 34 0) (y 35 0) (y 36 0) (y 37) (y 38) (y 39)) H := hP
          have hD : va_D A (moW T q n (x 0) (fu (fu (x 1) (x 12 0) (1)) (x 13 0) (0)) (mkF (x 2) (x 18 0)) (cdF (x 2) (x 18 0)) (x 3) (x 4) (x 11 0) ((x 12 0) - 1) (x 13 0) (x 14 0) (x 15 0) (x 16 0) (x 17 0) (x 18 0) (x 19 0) (x 20 0) (x 21 0) (x 22 0) (y 31 0) (y 32 0) (y 33 0) (y 34 0) (y 35 0) (y 36 0) (y 37) (y 38) (y 39)) := hD
          refine lv_aload_n hx hb d_MO_marks_80 rfl (lv_at hl 0 rfl) ?_
          refine lv_dup hx hb d_MO_marks_81 rfl ?_
          refine va_get (D := D) (ci := 5) (v := .int (iI (x 13 0))) (C := R_MO) (T := T_MO) (N := 28) hx hb hT lays_MO hown hK hP 0 rfl rfl 6 (by decide) (hT _ tw_642) (fun _ h9 => h9) rfl d_MO_marks_82 ?_
          refine cx_iconst hx hb d_MO_marks_85 ?_
          refine cx_isub hx hb d_MO_marks_86 ?_
          refine va_put (D := D) (ci := 5) (v := .int (iI ((x 13 0) - 1))) (ty := .int) (C := R_MO) (T := T_MO) (N := 28) hx hb hT lays_MO t_MO t_MO_ok n_MO hown hK hP hD hS 0 rfl rfl 6 (by decide) (hT _ tw_642) (fun _ h9 => h9) rfl (by decide +kernel) rfl rfl (Nat.le_of_ble_eq_true rfl) d_MO_marks_87 (fun H locs hP hD hS => ?_)
          have hP : va_P D vwCl (moW T q n (x 0) (fu (fu (x 1) (x 12 0) (1)) (x 13 0) (0)) (mkF (x 2) (x 18 0)) (cdF (x 2) (x 18 0)) (x 3) (x 4) (x 11 0) ((x 12 0) - 1) ((x 13 0) - 1) (x 14 0) (x 15 0) (x 16 0) (x 17 0) (x 18 0) (x 19 0) (x 20 0) (x 21 0) (x 22 0) (y 31 0) (y 32 0) (y 33 0) (y 34 0) (y 35 0) (y 36 0) (y 37) (y 38) (y 39)) H := hP
          have hD : va_D A (moW T q n (x 0) (fu (fu (x 1) (x 12 0) (1)) (x 13 0) (0)) (mkF (x 2) (x 18 0)) (cdF (x 2) (x 18 0)) (x 3) (x 4) (x 11 0) ((x 12 0) - 1) ((x 13 0) - 1) (x 14 0) (x 15 0) (x 16 0) (x 17 0) (x 18 0) (x 19 0) (x 20 0) (x 21 0) (x 22 0) (y 31 0) (y 32 0) (y 33 0) (y 34 0) (y 35 0) (y 36 0) (y 37) (y 38) (y 39)) := hD
          refine cx_iconst hx hb d_MO_marks_90 ?_
          exact hret ((up (up (up x 1 (fu (fu (x 1) (x 12 0) (1)) (x 13 0) (0))) 12 (cst ((x 12 0) - 1))) 13 (cst ((x 13 0) - 1)), y) : SX × SX) (⟨pst_of (by first | (exfalso; omega) | (unfold mrkS; rw [if_pos (by omega), if_pos h38])) (show okX (up (up (up x 1 (fu (fu (x 1) (x 12 0) (1)) (x 13 0) (0))) 12 (cst ((x 12 0) - 1))) 13 (cst ((x 13 0) - 1))) from ⟨hC, (show okR (x 11 0) ((x 12 0) - 1) ((x 13 0) - 1) (x 14 0) (x 15 0) (x 16 0) (x 17 0) (x 18 0) (x 19 0) (x 20 0) by have h8 := hX.2.1; unfold okR at h8 ⊢; omega), hX.2.2⟩), ⟨rfl, rfl⟩⟩) hP hD hS d_MO_marks_91
        · refine cx_iconst hx hb d_MO_marks_64 ?_
          refine lv_goto (tgt := 69) hx hb d_MO_marks_65 rfl ?_
          refine cx_zast (g := iF (fu (x 1) (x 12 0) (1))) (g' := iF (fu (fu (x 1) (x 12 0) (1)) (x 13 0) (1))) hx hb hK hP hD hS 2 2 rfl rfl (by omega) (by omega) (by omega) (fun j => iF_put j) d_MO_marks_69 (fun H locs hP hD hS => ?_)
          have hP : va_P D vwCl (moW T q n (x 0) (fu (fu (x 1) (x 12 0) (1)) (x 13 0) (1)) (mkF (x 2) (x 18 0)) (cdF (x 2) (x 18 0)) (x 3) (x 4) (x 11 0) (x 12 0) (x 13 0) (x 14 0) (x 15 0) (x 16 0) (x 17 0) (x 18 0) (x 19 0) (x 20 0) (x 21 0) (x 22 0) (y 31 0) (y 32 0) (y 33 0) (y 34 0) (y 35 0) (y 36 0) (y 37) (y 38) (y 39)) H := hP
          have hD : va_D A (moW T q n (x 0) (fu (fu (x 1) (x 12 0) (1)) (x 13 0) (1)) (mkF (x 2) (x 18 0)) (cdF (x 2) (x 18 0)) (x 3) (x 4) (x 11 0) (x 12 0) (x 13 0) (x 14 0) (x 15 0) (x 16 0) (x 17 0) (x 18 0) (x 19 0) (x 20 0) (x 21 0) (x 22 0) (y 31 0) (y 32 0) (y 33 0) (y 34 0) (y 35 0) (y 36 0) (y 37) (y 38) (y 39)) := hD
          have hC : okC (x 0) (fu (fu (x 1) (x 12 0) (1)) (x 13 0) (1)) := okC_mk hC (by omega)
          refine lv_aload_n hx hb d_MO_marks_70 rfl (lv_at hl 0 rfl) ?_
          refine lv_dup hx hb d_MO_marks_71 rfl ?_
          refine va_get (D := D) (ci := 5) (v := .int (iI (x 12 0))) (C := R_MO) (T := T_MO) (N := 28) hx hb hT lays_MO hown hK hP 0 rfl rfl 5 (by decide) (hT _ tw_641) (fun _ h9 => h9) rfl d_MO_marks_72 ?_
          refine cx_iconst hx hb d_MO_marks_75 ?_
          refine cx_isub hx hb d_MO_marks_76 ?_
          refine va_put (D := D) (ci := 5) (v := .int (iI ((x 12 0) - 1))) (ty := .int) (C := R_MO) (T := T_MO) (N := 28) hx hb hT lays_MO t_MO t_MO_ok n_MO hown hK hP hD hS 0 rfl rfl 5 (by decide) (hT _ tw_641) (fun _ h9 => h9) rfl (by decide +kernel) rfl rfl (Nat.le_of_ble_eq_true rfl) d_MO_marks_77 (fun H locs hP hD hS => ?_)
          have hP : va_P D vwCl (moW T q n (x 0) (fu (fu (x 1) (x 12 0) (1)) (x 13 0) (1)) (mkF (x 2) (x 18 0)) (cdF (x 2) (x 18 0)) (x 3) (x 4) (x 11 0) ((x 12 0) - 1) (x 13 0) (x 14 0) (x 15 0) (x 16 0) (x 17 0) (x 18 0) (x 19 0) (x 20 0) (x 21 0) (x 22 0) (y 31 0) (y 32 0) (y 33 0) (y 34 0) (y 35 0) (y 36 0) (y 37) (y 38) (y 39)) H := hP
          have hD : va_D A (moW T q n (x 0) (fu (fu (x 1) (x 12 0) (1)) (x 13 0) (1)) (mkF (x 2) (x 18 0)) (cdF (x 2) (x 18 0)) (x 3) (x 4) (x 11 0) ((x 12 0) - 1) (x 13 0) (x 14 0) (x 15 0) (x 16 0) (x 17 0) (x 18 0) (x 19 0) (x 20 0) (x 21 0) (x 22 0) (y 31 0) (y 32 0) (y 33 0) (y 34 0) (y 35 0) (y 36 0) (y 37) (y 38) (y 39)) := hD
          refine lv_aload_n hx hb d_MO_marks_80 rfl (lv_at hl 0 rfl) ?_
          refine lv_dup hx hb d_MO_marks_81 rfl ?_
          refine va_get (D := D) (ci := 5) (v := .int (iI (x 13 0))) (C := R_MO) (T := T_MO) (N := 28) hx hb hT lays_MO hown hK hP 0 rfl rfl 6 (by decide) (hT _ tw_642) (fun _ h9 => h9) rfl d_MO_marks_82 ?_
          refine cx_iconst hx hb d_MO_marks_85 ?_
          refine cx_isub hx hb d_MO_marks_86 ?_
          refine va_put (D := D) (ci := 5) (v := .int (iI ((x 13 0) - 1))) (ty := .int) (C := R_MO) (T := T_MO) (N := 28) hx hb hT lays_MO t_MO t_MO_ok n_MO hown hK hP hD hS 0 rfl rfl 6 (by decide) (hT _ tw_642) (fun _ h9 => h9) rfl (by decide +kernel) rfl rfl (Nat.le_of_ble_eq_true rfl) d_MO_marks_87 (fun H locs hP hD hS => ?_)
          have hP : va_P D vwCl (moW T q n (x 0) (fu (fu (x 1) (x 12 0) (1)) (x 13 0) (1)) (mkF (x 2) (x 18 0)) (cdF (x 2) (x 18 0)) (x 3) (x 4) (x 11 0) ((x 12 0) - 1) ((x 13 0) - 1) (x 14 0) (x 15 0) (x 16 0) (x 17 0) (x 18 0) (x 19 0) (x 20 0) (x 21 0) (x 22 0) (y 31 0) (y 32 0) (y 33 0) (y 34 0) (y 35 0) (y 36 0) (y 37) (y 38) (y 39)) H := hP
          have hD : va_D A (moW T q n (x 0) (fu (fu (x 1) (x 12 0) (1)) (x 13 0) (1)) (mkF (x 2) (x 18 0)) (cdF (x 2) (x 18 0)) (x 3) (x 4) (x 11 0) ((x 12 0) - 1) ((x 13 0) - 1) (x 14 0) (x 15 0) (x 16 0) (x 17 0) (x 18 0) (x 19 0) (x 20 0) (x 21 0) (x 22 0) (y 31 0) (y 32 0) (y 33 0) (y 34 0) (y 35 0) (y 36 0) (y 37) (y 38) (y 39)) := hD
          refine cx_iconst hx hb d_MO_marks_90 ?_
          exact hret ((up (up (up x 1 (fu (fu (x 1) (x 12 0) (1)) (x 13 0) (1))) 12 (cst ((x 12 0) - 1))) 13 (cst ((x 13 0) - 1)), y) : SX × SX) (⟨pst_of (by first | (exfalso; omega) | (unfold mrkS; rw [if_pos (by omega), if_pos h38])) (show okX (up (up (up x 1 (fu (fu (x 1) (x 12 0) (1)) (x 13 0) (1))) 12 (cst ((x 12 0) - 1))) 13 (cst ((x 13 0) - 1))) from ⟨hC, (show okR (x 11 0) ((x 12 0) - 1) ((x 13 0) - 1) (x 14 0) (x 15 0) (x 16 0) (x 17 0) (x 18 0) (x 19 0) (x 20 0) by have h8 := hX.2.1; unfold okR at h8 ⊢; omega), hX.2.2⟩), ⟨rfl, rfl⟩⟩) hP hD hS d_MO_marks_91
    · refine cx_if_ne (tgt := 24) hx hb d_MO_marks_19 rfl (by omega) (fun h0 => absurd h0 (by decide)) (fun _ => ?_)
      refine cx_iconst hx hb d_MO_marks_22 ?_
      exact hret ((x, y) : SX × SX) (⟨pst_of (by unfold mrkS; rw [if_neg (by omega)]) hX, ⟨rfl, rfl⟩⟩) hP hD hS d_MO_marks_23
  · refine cx_if_eq (tgt := 22) hx hb d_MO_marks_8 rfl (by omega) (fun _ => ?_) (fun h0 => absurd h0 (by decide))
    refine cx_iconst hx hb d_MO_marks_22 ?_
    exact hret ((x, y) : SX × SX) (⟨pst_of (by unfold mrkS; rw [if_neg (by omega)]) hX, ⟨rfl, rfl⟩⟩) hP hD hS d_MO_marks_23

set_option maxHeartbeats 4000000 in
set_option maxRecDepth 100000 in
theorem c_MO_go (l : Launch) (D : va_G) (T : Nat → ClassId) (sz : Nat) (q : Nat → Nat) (n : Nat) (hn : 400 ≤ n ∧ n ≤ 2000) (x y : SX) (hX : okX x) : MV l y_MO_go (wY y_MO_go b_MO_go 2 none) (rmK 0) D vwCl (tyL T) nwL sz [.ref (q 20)] (moW T q n (x 0) (x 1) (mkF (x 2) (x 18 0)) (cdF (x 2) (x 18 0)) (x 3) (x 4) (x 11 0) (x 12 0) (x 13 0) (x 14 0) (x 15 0) (x 16 0) (x 17 0) (x 18 0) (x 19 0) (x 20 0) (x 21 0) (x 22 0) (y 31 0) (y 32 0) (y 33 0) (y 34 0) (y 35 0) (y 36 0) (y 37) (y 38) (y 39)) (fun (_ : Unit) => True) (fun _ => moX T q n (goS x) y) := by
  refine cx_inV (by decide) rfl (Nat.le_of_ble_eq_true rfl) ?_
  intro p e s m below meth cd ls A Q hx hb hml hT hown hret hP hK hD hN hS hA hl
  have hown : s.vm.findClass R_MO = some m.cls := hown
  have hl : lv_has ls 2 [(0, .ref (q 20))] := hl
  have hC := hX.1
  have hR0 := hX.2.1
  have hF := hX.2.2
  unfold okR at hR0
  refine lv_aload_n hx hb d_MO_go_0 rfl (lv_at hl 0 rfl) ?_
  refine va_get (D := D) (ci := 5) (v := .int (iI (x 12 0))) (C := R_MO) (T := T_MO) (N := 28) hx hb hT lays_MO hown hK hP 0 rfl rfl 5 (by decide) (hT _ tw_641) (fun _ h9 => h9) rfl d_MO_go_1 ?_
  refine lv_istore_n (lv' := [(1, .int (iI (x 12 0))), (0, .ref (q 20))]) hx hb d_MO_go_4 rfl hl (by decide) rfl (fun ls hl => ?_)
  refine lv_aload_n hx hb d_MO_go_5 rfl (lv_at hl 1 rfl) ?_
  refine lv_aload_n hx hb d_MO_go_6 rfl (lv_at hl 1 rfl) ?_
  refine va_get (D := D) (ci := 5) (v := .int (iI (x 11 0))) (C := R_MO) (T := T_MO) (N := 28) hx hb hT lays_MO hown hK hP 0 rfl rfl 4 (by decide) (hT _ tw_640) (fun _ h9 => h9) rfl d_MO_go_7 ?_
  refine va_put (D := D) (ci := 5) (v := .int (iI (x 11 0))) (ty := .int) (C := R_MO) (T := T_MO) (N := 28) hx hb hT lays_MO t_MO t_MO_ok n_MO hown hK hP hD hS 0 rfl rfl 5 (by decide) (hT _ tw_641) (fun _ h9 => h9) rfl (by decide +kernel) rfl rfl (Nat.le_of_ble_eq_true rfl) d_MO_go_10 (fun H locs hP hD hS => ?_)
  have hP : va_P D vwCl (moW T q n (x 0) (x 1) (mkF (x 2) (x 18 0)) (cdF (x 2) (x 18 0)) (x 3) (x 4) (x 11 0) (x 11 0) (x 13 0) (x 14 0) (x 15 0) (x 16 0) (x 17 0) (x 18 0) (x 19 0) (x 20 0) (x 21 0) (x 22 0) (y 31 0) (y 32 0) (y 33 0) (y 34 0) (y 35 0) (y 36 0) (y 37) (y 38) (y 39)) H := hP
  have hD : va_D A (moW T q n (x 0) (x 1) (mkF (x 2) (x 18 0)) (cdF (x 2) (x 18 0)) (x 3) (x 4) (x 11 0) (x 11 0) (x 13 0) (x 14 0) (x 15 0) (x 16 0) (x 17 0) (x 18 0) (x 19 0) (x 20 0) (x 21 0) (x 22 0) (y 31 0) (y 32 0) (y 33 0) (y 34 0) (y 35 0) (y 36 0) (y 37) (y 38) (y 39)) := hD
  refine lv_aload_n hx hb d_MO_go_13 rfl (lv_at hl 1 rfl) ?_
  refine lv_iload_n hx hb d_MO_go_14 rfl (lv_at hl 0 rfl) ?_
  refine va_put (D := D) (ci := 5) (v := .int (iI (x 12 0))) (ty := .int) (C := R_MO) (T := T_MO) (N := 28) hx hb hT lays_MO t_MO t_MO_ok n_MO hown hK hP hD hS 0 rfl rfl 4 (by decide) (hT _ tw_640) (fun _ h9 => h9) rfl (by decide +kernel) rfl rfl (Nat.le_of_ble_eq_true rfl) d_MO_go_15 (fun H locs hP hD hS => ?_)
  have hP : va_P D vwCl (moW T q n (x 0) (x 1) (mkF (x 2) (x 18 0)) (cdF (x 2) (x 18 0)) (x 3) (x 4) (x 12 0) (x 11 0) (x 13 0) (x 14 0) (x 15 0) (x 16 0) (x 17 0) (x 18 0) (x 19 0) (x 20 0) (x 21 0) (x 22 0) (y 31 0) (y 32 0) (y 33 0) (y 34 0) (y 35 0) (y 36 0) (y 37) (y 38) (y 39)) H := hP
  have hD : va_D A (moW T q n (x 0) (x 1) (mkF (x 2) (x 18 0)) (cdF (x 2) (x 18 0)) (x 3) (x 4) (x 12 0) (x 11 0) (x 13 0) (x 14 0) (x 15 0) (x 16 0) (x 17 0) (x 18 0) (x 19 0) (x 20 0) (x 21 0) (x 22 0) (y 31 0) (y 32 0) (y 33 0) (y 34 0) (y 35 0) (y 36 0) (y 37) (y 38) (y 39)) := hD
  exact hret () trivial hP hD hS d_MO_go_18

set_option maxHeartbeats 4000000 in
set_option maxRecDepth 100000 in
theorem c_MO_modifier (l : Launch) (D : va_G) (T : Nat → ClassId) (sz : Nat) (q : Nat → Nat) (n : Nat) (hn : 400 ≤ n ∧ n ≤ 2000) (x y : SX) (hX : okX x) (h1 : 0 ≤ y 34 0 + y 33 0 - 1 ∧ y 34 0 + y 33 0 - 1 < n) : MI l y_MO_modifier (wY y_MO_modifier b_MO_modifier 1 (some .int)) (rmK 0) D vwCl (tyL T) nwL sz [.ref (q 20)] (moW T q n (x 0) (x 1) (mkF (x 2) (x 18 0)) (cdF (x 2) (x 18 0)) (x 3) (x 4) (x 11 0) (x 12 0) (x 13 0) (x 14 0) (x 15 0) (x 16 0) (x 17 0) (x 18 0) (x 19 0) (x 20 0) (x 21 0) (x 22 0) (y 31 0) (y 32 0) (y 33 0) (y 34 0) (y 35 0) (y 36 0) (y 37) (y 38) (y 39)) (fun r (_ : Unit) => r = iI (x 0 (y 34 0 + y 33 0 - 1))) (fun _ => moX T q n x y) := by
  refine cx_inI (by decide) rfl (Nat.le_of_ble_eq_true rfl) ?_
  intro p e s m below meth cd ls A Q hx hb hml hT hown hret hP hK hD hN hS hA hl
  have hown : s.vm.findClass R_MO = some m.cls := hown
  have hl : lv_has ls 1 [(0, .ref (q 20))] := hl
  have hC := hX.1
  have hR0 := hX.2.1
  have hF := hX.2.2
  unfold okR at hR0
  refine lv_aload_n hx hb d_MO_modifier_0 rfl (lv_at hl 0 rfl) ?_
  refine va_get (D := D) (ci := 5) (v := .ref (q 21)) (C := R_MO) (T := T_MO) (N := 28) hx hb hT lays_MO hown hK hP 0 rfl rfl 2 (by decide) (hT _ tw_638) (fun _ h9 => h9) rfl d_MO_modifier_1 ?_
  refine lv_aload_n hx hb d_MO_modifier_4 rfl (lv_at hl 0 rfl) ?_
  refine va_get (D := D) (ci := 5) (v := .int (iI (y 34 0))) (C := R_MO) (T := T_MO) (N := 28) hx hb hT lays_MO hown hK hP 0 rfl rfl 14 (by decide) (hT _ tw_650) (fun _ h9 => h9) rfl d_MO_modifier_5 ?_
  refine lv_aload_n hx hb d_MO_modifier_8 rfl (lv_at hl 0 rfl) ?_
  refine va_get (D := D) (ci := 5) (v := .int (iI (y 33 0))) (C := R_MO) (T := T_MO) (N := 28) hx hb hT lays_MO hown hK hP 0 rfl rfl 13 (by decide) (hT _ tw_649) (fun _ h9 => h9) rfl d_MO_modifier_9 ?_
  refine cx_iadd hx hb d_MO_modifier_12 ?_
  refine cx_iconst hx hb d_MO_modifier_13 ?_
  refine cx_isub hx hb d_MO_modifier_14 ?_
  refine cx_bald (g := iF (x 0)) hx hb hK hP 1 1 rfl rfl (by omega) (by omega) d_MO_modifier_15 ?_
  have hc15 := hC.1 (((y 34 0) + (y 33 0)) - 1)
  exact hret () rfl hP hD hS d_MO_modifier_16

set_option maxHeartbeats 4000000 in
set_option maxRecDepth 100000 in
theorem c_MO_clear (l : Launch) (D : va_G) (T : Nat → ClassId) (sz : Nat) (q : Nat → Nat) (n : Nat) (hn : 400 ≤ n ∧ n ≤ 2000) (x y : SX) (hX : okX x) (hY : (0 ≤ y 32 0 ∧ y 32 0 < 64) ∧ (1 ≤ y 33 0 ∧ y 33 0 ≤ 8)) : MI l y_MO_clear (wY y_MO_clear b_MO_clear 3 (some .int)) (rmK 1) D vwCl (tyL T) nwL sz [.ref (q 20)] (moW T q n (x 0) (x 1) (mkF (x 2) (x 18 0)) (cdF (x 2) (x 18 0)) (x 3) (x 4) (x 11 0) (x 12 0) (x 13 0) (x 14 0) (x 15 0) (x 16 0) (x 17 0) (x 18 0) (x 19 0) (x 20 0) (x 21 0) (x 22 0) (y 31 0) (y 32 0) (y 33 0) (y 34 0) (y 35 0) (y 36 0) (y 37) (y 38) (y 39)) (fun r (u : SX × SX) => pst (clrS n (if y 33 0 = 7 then 1 else 0) x) r u.1 ∧ (u.2 31 = y 31 ∧ u.2 33 = y 33)) (fun (u : SX × SX) => moX T q n u.1 u.2) := by
  refine cx_inI (by decide) rfl (Nat.le_of_ble_eq_true rfl) ?_
  intro p e s m below meth cd ls A Q hx hb hml hT hown hret hP hK hD hN hS hA hl
  have hown : s.vm.findClass R_MO = some m.cls := hown
  have hl : lv_has ls 3 [(0, .ref (q 20))] := hl
  have hC := hX.1
  have hR0 := hX.2.1
  have hF := hX.2.2
  unfold okR at hR0
  refine lv_aload_n hx hb d_MO_clear_0 rfl (lv_at hl 0 rfl) ?_
  refine lv_aload_n hx hb d_MO_clear_1 rfl (lv_at hl 0 rfl) ?_
  refine va_get (D := D) (ci := 5) (v := .int (iI (x 13 0))) (C := R_MO) (T := T_MO) (N := 28) hx hb hT lays_MO hown hK hP 0 rfl rfl 6 (by decide) (hT _ tw_642) (fun _ h9 => h9) rfl d_MO_clear_2 ?_
  refine cx_cI (ws2 := fun _ => moW T q n (x 0) (x 1) (mkF (x 2) (x 18 0)) (cdF (x 2) (x 18 0)) (x 3) (x 4) (x 11 0) (x 12 0) (x 13 0) (x 14 0) (x 15 0) (x 16 0) (x 17 0) (x 18 0) (x 19 0) (x 20 0) (x 21 0) (x 22 0) (y 31 0) (y 32 0) (y 33 0) (y 34 0) (y 35 0) (y 36 0) (y 37) (y 38) (y 39)) (cx_rV (q0 := 0) (ci := 5) (rest := []) (As := [.int (iI (x 13 0))]) hx hb hml hown hT hK hN hP hD hl.1 tw_731 k_MO_is (c_MO_is l D T s.heap.size q n hn x y hX (x 13 0) (by omega)) ⟨by decide, by decide⟩ ⟨rfl, rfl⟩ [0, 1, 2, 3, 4, 5, 6, 7, 8, 9] (by decide) rfl rfl rfl rfl rfl (Nat.le_of_ble_eq_true rfl) ⟨Nat.zero_le _, Nat.zero_le _⟩ d_MO_clear_5) hP hD hS hA [0, 1, 2, 3, 4, 5, 6, 7, 8, 9] [] [0, 1, 2, 3, 4, 5, 6, 7, 8, 9] rfl (wr := []) rfl (by decide) (by decide) (fun _ => rfl) (by decide) (fun r u_ H locs hq5 hP hD hS => ?_)
  rcases hq5 with ⟨rfl, h5⟩ | ⟨rfl, h5⟩
  · refine cx_if_ne (tgt := 13) hx hb d_MO_clear_8 rfl (by omega) (fun _ => ?_) (fun h0 => absurd h0 (by decide))
    refine lv_aload_n hx hb d_MO_clear_13 rfl (lv_at hl 0 rfl) ?_
    refine va_get (D := D) (ci := 5) (v := .int (iI (x 13 0))) (C := R_MO) (T := T_MO) (N := 28) hx hb hT lays_MO hown hK hP 0 rfl rfl 6 (by decide) (hT _ tw_642) (fun _ h9 => h9) rfl d_MO_clear_14 ?_
    refine cx_bipush hx hb d_MO_clear_17 rfl ?_
    refine cx_idiv hx hb d_MO_clear_19 (by omega) (by omega) ?_
    refine cx_bipush hx hb d_MO_clear_20 rfl ?_
    refine cx_imul hx hb d_MO_clear_22 ?_
    refine lv_istore_n (lv' := [(1, .int (iI (((x 13 0) / 100) * 100))), (0, .ref (q 20))]) hx hb d_MO_clear_23 rfl hl (by decide) rfl (fun ls hl => ?_)
    refine lv_iload_n hx hb d_MO_clear_24 rfl (lv_at hl 0 rfl) ?_
    refine lv_istore_n (lv' := [(2, .int (iI (((x 13 0) / 100) * 100))), (1, .int (iI (((x 13 0) / 100) * 100))), (0, .ref (q 20))]) hx hb d_MO_clear_25 rfl hl (by decide) rfl (fun ls hl => ?_)
    have L1 : ∀ (k_ : Nat) (z : Int) (H : Heap) (locs : List Loc) (ls : Array Slot), (x 13 0 / 100 * 100 ≤ z ∧ z ≤ x 13 0 + 1 ∧ x 13 0 + 1 - z < k_) → (okC (spa (x 0) (x 13 0 / 100 * 100) (z - x 13 0 / 100 * 100) (cst 0)) (spa (x 1) (x 13 0 / 100 * 100) (z - x 13 0 / 100 * 100) (cst 0))) → va_P D vwCl (moW T q n (spa (x 0) (x 13 0 / 100 * 100) (z - x 13 0 / 100 * 100) (cst 0)) (spa (x 1) (x 13 0 / 100 * 100) (z - x 13 0 / 100 * 100) (cst 0)) (mkF (x 2) (x 18 0)) (cdF (x 2) (x 18 0)) (x 3) (x 4) (x 11 0) (x 12 0) (x 13 0) (x 14 0) (x 15 0) (x 16 0) (x 17 0) (x 18 0) (x 19 0) (x 20 0) (x 21 0) (x 22 0) (y 31 0) (y 32 0) (y 33 0) (y 34 0) (y 35 0) (y 36 0) (y 37) (y 38) (y 39)) H → va_D A (moW T q n (spa (x 0) (x 13 0 / 100 * 100) (z - x 13 0 / 100 * 100) (cst 0)) (spa (x 1) (x 13 0 / 100 * 100) (z - x 13 0 / 100 * 100) (cst 0)) (mkF (x 2) (x 18 0)) (cdF (x 2) (x 18 0)) (x 3) (x 4) (x 11 0) (x 12 0) (x 13 0) (x 14 0) (x 15 0) (x 16 0) (x 17 0) (x 18 0) (x 19 0) (x 20 0) (x 21 0) (x 22 0) (y 31 0) (y 32 0) (y 33 0) (y 34 0) (y 35 0) (y 36 0) (y 37) (y 38) (y 39)) → va_S A s.heap H locs → lv_has ls 3 [(2, .int (iI (z))), (1, .int (iI (((x 13 0) / 100) * 100))), (0, .ref (q 20))] → W p l e (rmK 1) s m ([.ref (q 20)] : List Value).toArray below meth cd H locs 0 0 Q (F0 m 26 ls []) := by
      intro k_
      induction k_ with
      | zero => intro z H locs ls hj hC _ _ _ _; exact absurd hj (by omega)
      | succ k_ ih1 =>
        intro z H locs ls hj hC hP hD hS hl
        refine lv_iload_n hx hb d_MO_clear_26 rfl (lv_at hl 0 rfl) ?_
        refine lv_aload_n hx hb d_MO_clear_27 rfl (lv_at hl 2 rfl) ?_
        refine va_get (D := D) (ci := 5) (v := .int (iI (x 13 0))) (C := R_MO) (T := T_MO) (N := 28) hx hb hT lays_MO hown hK hP 0 rfl rfl 6 (by decide) (hT _ tw_642) (fun _ h9 => h9) rfl d_MO_clear_28 ?_
        refine cx_icmp_gt (tgt := 54) hx hb d_MO_clear_31 rfl (by omega) (by omega) (fun h31 => ?_) (fun h31 => ?_)
        · rw [spa_spn (b := x 13 0) (by omega), spa_spn (b := x 13 0) (by omega)] at hP hD hC
          refine lv_aload_n hx hb d_MO_clear_54 rfl (lv_at hl 2 rfl) ?_
          refine lv_iload_n hx hb d_MO_clear_55 rfl (lv_at hl 1 rfl) ?_
          refine cx_iconst hx hb d_MO_clear_56 ?_
          refine cx_isub hx hb d_MO_clear_57 ?_
          refine va_put (D := D) (ci := 5) (v := .int (iI ((((x 13 0) / 100) * 100) - 1))) (ty := .int) (C := R_MO) (T := T_MO) (N := 28) hx hb hT lays_MO t_MO t_MO_ok n_MO hown hK hP hD hS 0 rfl rfl 6 (by decide) (hT _ tw_642) (fun _ h9 => h9) rfl (by decide +kernel) rfl rfl (Nat.le_of_ble_eq_true rfl) d_MO_clear_58 (fun H locs hP hD hS => ?_)
          have hP : va_P D vwCl (moW T q n (spn (x 0) (x 13 0) (x 13 0 % 100 + 1) (cst 0)) (spn (x 1) (x 13 0) (x 13 0 % 100 + 1) (cst 0)) (mkF (x 2) (x 18 0)) (cdF (x 2) (x 18 0)) (x 3) (x 4) (x 11 0) (x 12 0) ((((x 13 0) / 100) * 100) - 1) (x 14 0) (x 15 0) (x 16 0) (x 17 0) (x 18 0) (x 19 0) (x 20 0) (x 21 0) (x 22 0) (y 31 0) (y 32 0) (y 33 0) (y 34 0) (y 35 0) (y 36 0) (y 37) (y 38) (y 39)) H := hP
          have hD : va_D A (moW T q n (spn (x 0) (x 13 0) (x 13 0 % 100 + 1) (cst 0)) (spn (x 1) (x 13 0) (x 13 0 % 100 + 1) (cst 0)) (mkF (x 2) (x 18 0)) (cdF (x 2) (x 18 0)) (x 3) (x 4) (x 11 0) (x 12 0) ((((x 13 0) / 100) * 100) - 1) (x 14 0) (x 15 0) (x 16 0) (x 17 0) (x 18 0) (x 19 0) (x 20 0) (x 21 0) (x 22 0) (y 31 0) (y 32 0) (y 33 0) (y 34 0) (y 35 0) (y 36 0) (y 37) (y 38) (y 39)) := hD
          have e9 : x 13 0 / 100 * 100 - 1 = x 13 0 - x 13 0 % 100 - 1 := by omega
          rw [e9] at hP hD
          refine lv_aload_n hx hb d_MO_clear_61 rfl (lv_at hl 2 rfl) ?_
          refine va_get (D := D) (ci := 5) (v := .int (iI (y 33 0))) (C := R_MO) (T := T_MO) (N := 28) hx hb hT lays_MO hown hK hP 0 rfl rfl 13 (by decide) (hT _ tw_649) (fun _ h9 => h9) rfl d_MO_clear_62 ?_
          refine cx_bipush hx hb d_MO_clear_65 rfl ?_
          refine cx_icmp_ne (tgt := 74) hx hb d_MO_clear_67 rfl (by omega) (by omega) (fun h67 => ?_) (fun h67 => ?_)
          · refine cx_iconst hx hb d_MO_clear_74 ?_
            exact hret ((up (up (up x 0 (spn (x 0) (x 13 0) (x 13 0 % 100 + 1) (cst 0))) 1 (spn (x 1) (x 13 0) (x 13 0 % 100 + 1) (cst 0))) 13 (cst (x 13 0 - x 13 0 % 100 - 1)), y) : SX × SX) (⟨pst_of (by unfold clrS gof; rw [if_pos (by omega), if_neg h67, if_pos rfl]) (show okX (up (up (up x 0 (spn (x 0) (x 13 0) (x 13 0 % 100 + 1) (cst 0))) 1 (spn (x 1) (x 13 0) (x 13 0 % 100 + 1) (cst 0))) 13 (cst (x 13 0 - x 13 0 % 100 - 1))) from ⟨hC, (show okR (x 11 0) (x 12 0) (x 13 0 - x 13 0 % 100 - 1) (x 14 0) (x 15 0) (x 16 0) (x 17 0) (x 18 0) (x 19 0) (x 20 0) by have h8 := hX.2.1; unfold okR at h8 ⊢; omega), hX.2.2⟩), ⟨rfl, rfl⟩⟩) hP hD hS d_MO_clear_75
          · refine lv_aload_n hx hb d_MO_clear_70 rfl (lv_at hl 2 rfl) ?_
            refine cx_cV (ws2 := fun _ => moW T q n ((goS (up (up (up x 0 (spn (x 0) (x 13 0) (x 13 0 % 100 + 1) (cst 0))) 1 (spn (x 1) (x 13 0) (x 13 0 % 100 + 1) (cst 0))) 13 (cst (x 13 0 - x 13 0 % 100 - 1)))) 0) ((goS (up (up (up x 0 (spn (x 0) (x 13 0) (x 13 0 % 100 + 1) (cst 0))) 1 (spn (x 1) (x 13 0) (x 13 0 % 100 + 1) (cst 0))) 13 (cst (x 13 0 - x 13 0 % 100 - 1)))) 1) (mkF ((goS (up (up (up x 0 (spn (x 0) (x 13 0) (x 13 0 % 100 + 1) (cst 0))) 1 (spn (x 1) (x 13 0) (x 13 0 % 100 + 1) (cst 0))) 13 (cst (x 13 0 - x 13 0 % 100 - 1)))) 2) ((goS (up (up (up x 0 (spn (x 0) (x 13 0) (x 13 0 % 100 + 1) (cst 0))) 1 (spn (x 1) (x 13 0) (x 13 0 % 100 + 1) (cst 0))) 13 (cst (x 13 0 - x 13 0 % 100 - 1)))) 18 0)) (cdF ((goS (up (up (up x 0 (spn (x 0) (x 13 0) (x 13 0 % 100 + 1) (cst 0))) 1 (spn (x 1) (x 13 0) (x 13 0 % 100 + 1) (cst 0))) 13 (cst (x 13 0 - x 13 0 % 100 - 1)))) 2) ((goS (up (up (up x 0 (spn (x 0) (x 13 0) (x 13 0 % 100 + 1) (cst 0))) 1 (spn (x 1) (x 13 0) (x 13 0 % 100 + 1) (cst 0))) 13 (cst (x 13 0 - x 13 0 % 100 - 1)))) 18 0)) ((goS (up (up (up x 0 (spn (x 0) (x 13 0) (x 13 0 % 100 + 1) (cst 0))) 1 (spn (x 1) (x 13 0) (x 13 0 % 100 + 1) (cst 0))) 13 (cst (x 13 0 - x 13 0 % 100 - 1)))) 3) ((goS (up (up (up x 0 (spn (x 0) (x 13 0) (x 13 0 % 100 + 1) (cst 0))) 1 (spn (x 1) (x 13 0) (x 13 0 % 100 + 1) (cst 0))) 13 (cst (x 13 0 - x 13 0 % 100 - 1)))) 4) ((goS (up (up (up x 0 (spn (x 0) (x 13 0) (x 13 0 % 100 + 1) (cst 0))) 1 (spn (x 1) (x 13 0) (x 13 0 % 100 + 1) (cst 0))) 13 (cst (x 13 0 - x 13 0 % 100 - 1)))) 11 0) ((goS (up (up (up x 0 (spn (x 0) (x 13 0) (x 13 0 % 100 + 1) (cst 0))) 1 (spn (x 1) (x 13 0) (x 13 0 % 100 + 1) (cst 0))) 13 (cst (x 13 0 - x 13 0 % 100 - 1)))) 12 0) ((goS (up (up (up x 0 (spn (x 0) (x 13 0) (x 13 0 % 100 + 1) (cst 0))) 1 (spn (x 1) (x 13 0) (x 13 0 % 100 + 1) (cst 0))) 13 (cst (x 13 0 - x 13 0 % 100 - 1)))) 13 0) ((goS (up (up (up x 0 (spn (x 0) (x 13 0) (x 13 0 % 100 + 1) (cst 0))) 1 (spn (x 1) (x 13 0) (x 13 0 % 100 + 1) (cst 0))) 13 (cst (x 13 0 - x 13 0 % 100 - 1)))) 14 0) ((goS (up (up (up x 0 (spn (x 0) (x 13 0) (x 13 0 % 100 + 1) (cst 0))) 1 (spn (x 1) (x 13 0) (x 13 0 % 100 + 1) (cst 0))) 13 (cst (x 13 0 - x 13 0 % 100 - 1)))) 15 0) ((goS (up (up (up x 0 (spn (x 0) (x 13 0) (x 13 0 % 100 + 1) (cst 0))) 1 (spn (x 1) (x 13 0) (x 13 0 % 100 + 1) (cst 0))) 13 (cst (x 13 0 - x 13 0 % 100 - 1)))) 16 0) ((goS (up (up (up x 0 (spn (x 0) (x 13 0) (x 13 0 % 100 + 1) (cst 0))) 1 (spn (x 1) (x 13 0) (x 13 0 % 100 + 1) (cst 0))) 13 (cst (x 13 0 - x 13 0 % 100 - 1)))) 17 0) ((goS (up (up (up x 0 (spn (x 0) (x 13 0) (x 13 0 % 100 + 1) (cst 0))) 1 (spn (x 1) (x 13 0) (x 13 0 % 100 + 1) (cst 0))) 13 (cst (x 13 0 - x 13 0 % 100 - 1)))) 18 0) ((goS (up (up (up x 0 (spn (x 0) (x 13 0) (x 13 0 % 100 + 1) (cst 0))) 1 (spn (x 1) (x 13 0) (x 13 0 % 100 + 1) (cst 0))) 13 (cst (x 13 0 - x 13 0 % 100 - 1)))) 19 0) ((goS (up (up (up x 0 (spn (x 0) (x 13 0) (x 13 0 % 100 + 1) (cst 0))) 1 (spn (x 1) (x 13 0) (x 13 0 % 100 + 1) (cst 0))) 13 (cst (x 13 0 - x 13 0 % 100 - 1)))) 20 0) ((goS (up (up (up x 0 (spn (x 0) (x 13 0) (x 13 0 % 100 + 1) (cst 0))) 1 (spn (x 1) (x 13 0) (x 13 0 % 100 + 1) (cst 0))) 13 (cst (x 13 0 - x 13 0 % 100 - 1)))) 21 0) ((goS (up (up (up x 0 (spn (x 0) (x 13 0) (x 13 0 % 100 + 1) (cst 0))) 1 (spn (x 1) (x 13 0) (x 13 0 % 100 + 1) (cst 0))) 13 (cst (x 13 0 - x 13 0 % 100 - 1)))) 22 0) (y 31 0) (y 32 0) (y 33 0) (y 34 0) (y 35 0) (y 36 0) (y 37) (y 38) (y 39)) (cx_rV (q0 := 0) (ci := 5) (rest := []) (As := []) hx hb hml hown hT hK hN hP hD hl.1 tw_846 k_MO_go (c_MO_go l D T H.size q n hn (up (up (up x 0 (spn (x 0) (x 13 0) (x 13 0 % 100 + 1) (cst 0))) 1 (spn (x 1) (x 13 0) (x 13 0 % 100 + 1) (cst 0))) 13 (cst (x 13 0 - x 13 0 % 100 - 1))) y (show okX (up (up (up x 0 (spn (x 0) (x 13 0) (x 13 0 % 100 + 1) (cst 0))) 1 (spn (x 1) (x 13 0) (x 13 0 % 100 + 1) (cst 0))) 13 (cst (x 13 0 - x 13 0 % 100 - 1))) from ⟨hC, (show okR (x 11 0) (x 12 0) (x 13 0 - x 13 0 % 100 - 1) (x 14 0) (x 15 0) (x 16 0) (x 17 0) (x 18 0) (x 19 0) (x 20 0) by have h8 := hX.2.1; unfold okR at h8 ⊢; omega), hX.2.2⟩)) ⟨by decide, by decide⟩ ⟨rfl, rfl⟩ [0, 1, 2, 3, 4, 5, 6, 7, 8, 9] (by decide) rfl rfl rfl rfl rfl (Nat.le_of_ble_eq_true rfl) ⟨Nat.zero_le _, Nat.zero_le _⟩ d_MO_clear_71) hP hD hS hA [0, 1, 2, 3, 4, 5, 6, 7, 8, 9] [] [0, 1, 2, 3, 4, 5, 6, 7, 8, 9] rfl (wr := []) rfl (by decide) (by decide) (fun _ => rfl) (by decide) (fun u_ H locs hq71 hP hD hS => ?_)
            refine cx_iconst hx hb d_MO_clear_74 ?_
            exact hret (((goS (up (up (up x 0 (spn (x 0) (x 13 0) (x 13 0 % 100 + 1) (cst 0))) 1 (spn (x 1) (x 13 0) (x 13 0 % 100 + 1) (cst 0))) 13 (cst (x 13 0 - x 13 0 % 100 - 1)))), y) : SX × SX) (⟨pst_of (by unfold clrS gof; rw [if_pos (by omega), if_pos h67, if_neg (by decide)]) (goS_ok (show okX (up (up (up x 0 (spn (x 0) (x 13 0) (x 13 0 % 100 + 1) (cst 0))) 1 (spn (x 1) (x 13 0) (x 13 0 % 100 + 1) (cst 0))) 13 (cst (x 13 0 - x 13 0 % 100 - 1))) from ⟨hC, (show okR (x 11 0) (x 12 0) (x 13 0 - x 13 0 % 100 - 1) (x 14 0) (x 15 0) (x 16 0) (x 17 0) (x 18 0) (x 19 0) (x 20 0) by have h8 := hX.2.1; unfold okR at h8 ⊢; omega), hX.2.2⟩)), ⟨rfl, rfl⟩⟩) hP hD hS d_MO_clear_75
        · refine lv_aload_n hx hb d_MO_clear_34 rfl (lv_at hl 2 rfl) ?_
          refine va_get (D := D) (ci := 5) (v := .ref (q 21)) (C := R_MO) (T := T_MO) (N := 28) hx hb hT lays_MO hown hK hP 0 rfl rfl 2 (by decide) (hT _ tw_638) (fun _ h9 => h9) rfl d_MO_clear_35 ?_
          refine lv_iload_n hx hb d_MO_clear_38 rfl (lv_at hl 0 rfl) ?_
          refine cx_iconst hx hb d_MO_clear_39 ?_
          refine cx_bast (g := iF (spa (x 0) (x 13 0 / 100 * 100) (z - x 13 0 / 100 * 100) (cst 0))) (g' := iF (fu (spa (x 0) (x 13 0 / 100 * 100) (z - x 13 0 / 100 * 100) (cst 0)) (z) (0))) hx hb hK hP hD hS 1 1 rfl rfl (by omega) (by omega) (by omega) (fun j => iF_put j) d_MO_clear_40 (fun H locs hP hD hS => ?_)
          have hP : va_P D vwCl (moW T q n (fu (spa (x 0) (x 13 0 / 100 * 100) (z - x 13 0 / 100 * 100) (cst 0)) (z) (0)) (spa (x 1) (x 13 0 / 100 * 100) (z - x 13 0 / 100 * 100) (cst 0)) (mkF (x 2) (x 18 0)) (cdF (x 2) (x 18 0)) (x 3) (x 4) (x 11 0) (x 12 0) (x 13 0) (x 14 0) (x 15 0) (x 16 0) (x 17 0) (x 18 0) (x 19 0) (x 20 0) (x 21 0) (x 22 0) (y 31 0) (y 32 0) (y 33 0) (y 34 0) (y 35 0) (y 36 0) (y 37) (y 38) (y 39)) H := hP
          have hD : va_D A (moW T q n (fu (spa (x 0) (x 13 0 / 100 * 100) (z - x 13 0 / 100 * 100) (cst 0)) (z) (0)) (spa (x 1) (x 13 0 / 100 * 100) (z - x 13 0 / 100 * 100) (cst 0)) (mkF (x 2) (x 18 0)) (cdF (x 2) (x 18 0)) (x 3) (x 4) (x 11 0) (x 12 0) (x 13 0) (x 14 0) (x 15 0) (x 16 0) (x 17 0) (x 18 0) (x 19 0) (x 20 0) (x 21 0) (x 22 0) (y 31 0) (y 32 0) (y 33 0) (y 34 0) (y 35 0) (y 36 0) (y 37) (y 38) (y 39)) := hD
          have hC : okC (fu (spa (x 0) (x 13 0 / 100 * 100) (z - x 13 0 / 100 * 100) (cst 0)) (z) (0)) (spa (x 1) (x 13 0 / 100 * 100) (z - x 13 0 / 100 * 100) (cst 0)) := okC_fu hC (by omega)
          refine lv_aload_n hx hb d_MO_clear_41 rfl (lv_at hl 2 rfl) ?_
          refine va_get (D := D) (ci := 5) (v := .ref (q 22)) (C := R_MO) (T := T_MO) (N := 28) hx hb hT lays_MO hown hK hP 0 rfl rfl 3 (by decide) (hT _ tw_639) (fun _ h9 => h9) rfl d_MO_clear_42 ?_
          refine lv_iload_n hx hb d_MO_clear_45 rfl (lv_at hl 0 rfl) ?_
          refine cx_iconst hx hb d_MO_clear_46 ?_
          refine cx_zast (g := iF (spa (x 1) (x 13 0 / 100 * 100) (z - x 13 0 / 100 * 100) (cst 0))) (g' := iF (fu (spa (x 1) (x 13 0 / 100 * 100) (z - x 13 0 / 100 * 100) (cst 0)) (z) (0))) hx hb hK hP hD hS 2 2 rfl rfl (by omega) (by omega) (by omega) (fun j => iF_put j) d_MO_clear_47 (fun H locs hP hD hS => ?_)
          have hP : va_P D vwCl (moW T q n (fu (spa (x 0) (x 13 0 / 100 * 100) (z - x 13 0 / 100 * 100) (cst 0)) (z) (0)) (fu (spa (x 1) (x 13 0 / 100 * 100) (z - x 13 0 / 100 * 100) (cst 0)) (z) (0)) (mkF (x 2) (x 18 0)) (cdF (x 2) (x 18 0)) (x 3) (x 4) (x 11 0) (x 12 0) (x 13 0) (x 14 0) (x 15 0) (x 16 0) (x 17 0) (x 18 0) (x 19 0) (x 20 0) (x 21 0) (x 22 0) (y 31 0) (y 32 0) (y 33 0) (y 34 0) (y 35 0) (y 36 0) (y 37) (y 38) (y 39)) H := hP
          have hD : va_D A (moW T q n (fu (spa (x 0) (x 13 0 / 100 * 100) (z - x 13 0 / 100 * 100) (cst 0)) (z) (0)) (fu (spa (x 1) (x 13 0 / 100 * 100) (z - x 13 0 / 100 * 100) (cst 0)) (z) (0)) (mkF (x 2) (x 18 0)) (cdF (x 2) (x 18 0)) (x 3) (x 4) (x 11 0) (x 12 0) (x 13 0) (x 14 0) (x 15 0) (x 16 0) (x 17 0) (x 18 0) (x 19 0) (x 20 0) (x 21 0) (x 22 0) (y 31 0) (y 32 0) (y 33 0) (y 34 0) (y 35 0) (y 36 0) (y 37) (y 38) (y 39)) := hD
          have hC : okC (fu (spa (x 0) (x 13 0 / 100 * 100) (z - x 13 0 / 100 * 100) (cst 0)) (z) (0)) (fu (spa (x 1) (x 13 0 / 100 * 100) (z - x 13 0 / 100 * 100) (cst 0)) (z) (0)) := okC_mk hC (by omega)
          refine cx_iinc (k := 0) (lv' := [(2, .int (iI (z + 1))), (1, .int (iI (((x 13 0) / 100) * 100))), (0, .ref (q 20))]) hx hb d_MO_clear_48 hl rfl (by decide) rfl (fun ls hl => ?_)
          refine lv_goto (tgt := 26) hx hb d_MO_clear_51 rfl ?_
          rw [spa_zs (by omega), spa_zs (by omega)] at hP hD hC
          exact ih1 (z + 1) _ _ _ (by omega) hC hP hD hS (lv_sub hl [0, 1, 2] rfl)
    rw [← spa_z (x 0) (x 13 0 / 100 * 100) (cst 0), ← spa_z (x 1) (x 13 0 / 100 * 100) (cst 0)] at hP hD
    exact L1 2001 (x 13 0 / 100 * 100) _ _ _ (by omega) (by rw [spa_z, spa_z]; exact hC) hP hD hS (lv_sub hl [0, 1, 2] rfl)
  · refine cx_if_ne (tgt := 13) hx hb d_MO_clear_8 rfl (by omega) (fun h0 => absurd h0 (by decide)) (fun _ => ?_)
    refine cx_iconst hx hb d_MO_clear_11 ?_
    exact hret ((x, y) : SX × SX) (⟨pst_of (by unfold clrS; rw [if_neg (by omega)]) hX, ⟨rfl, rfl⟩⟩) hP hD hS d_MO_clear_12

set_option maxHeartbeats 4000000 in
set_option maxRecDepth 100000 in
theorem c_MO_at (l : Launch) (D : va_G) (T : Nat → ClassId) (sz : Nat) (q : Nat → Nat) (n : Nat) (hn : 400 ≤ n ∧ n ≤ 2000) (x y : SX) (hX : okX x) (z : Int) (hz : -2147483648 ≤ z ∧ z < 2147483648) : MI l y_MO_at (wY y_MO_at b_MO_at 2 (some .int)) (rmK 1) D vwCl (tyL T) nwL sz [.ref (q 20), .int (iI (z))] (moW T q n (x 0) (x 1) (mkF (x 2) (x 18 0)) (cdF (x 2) (x 18 0)) (x 3) (x 4) (x 11 0) (x 12 0) (x 13 0) (x 14 0) (x 15 0) (x 16 0) (x 17 0) (x 18 0) (x 19 0) (x 20 0) (x 21 0) (x 22 0) (y 31 0) (y 32 0) (y 33 0) (y 34 0) (y 35 0) (y 36 0) (y 37) (y 38) (y 39)) (fun r (u : SX × SX) => r = iI (if 0 ≤ z ∧ z < n then x 0 z else 0) ∧ u = (x, up y 31 (cst (if 0 ≤ z ∧ z < n then 0 else 1)))) (fun (u : SX × SX) => moX T q n u.1 u.2) := by
  refine cx_inI (by decide) rfl (Nat.le_of_ble_eq_true rfl) ?_
  intro p e s m below meth cd ls A Q hx hb hml hT hown hret hP hK hD hN hS hA hl
  have hown : s.vm.findClass R_MO = some m.cls := hown
  have hl : lv_has ls 2 [(0, .ref (q 20)), (1, .int (iI (z)))] := hl
  have hC := hX.1
  have hR0 := hX.2.1
  have hF := hX.2.2
  unfold okR at hR0
  refine lv_aload_n hx hb d_MO_at_0 rfl (lv_at hl 0 rfl) ?_
  refine lv_aload_n hx hb d_MO_at_1 rfl (lv_at hl 0 rfl) ?_
  refine lv_iload_n hx hb d_MO_at_2 rfl (lv_at hl 1 rfl) ?_
  refine cx_cI (ws2 := fun _ => moW T q n (x 0) (x 1) (mkF (x 2) (x 18 0)) (cdF (x 2) (x 18 0)) (x 3) (x 4) (x 11 0) (x 12 0) (x 13 0) (x 14 0) (x 15 0) (x 16 0) (x 17 0) (x 18 0) (x 19 0) (x 20 0) (x 21 0) (x 22 0) (y 31 0) (y 32 0) (y 33 0) (y 34 0) (y 35 0) (y 36 0) (y 37) (y 38) (y 39)) (cx_rV (q0 := 0) (ci := 5) (rest := [.ref (q 20)]) (As := [.int (iI (z))]) hx hb hml hown hT hK hN hP hD hl.1 tw_731 k_MO_is (c_MO_is l D T s.heap.size q n hn x y hX z (by omega)) ⟨by decide, by decide⟩ ⟨rfl, rfl⟩ [0, 1, 2, 3, 4, 5, 6, 7, 8, 9] (by decide) rfl rfl rfl rfl rfl (Nat.le_of_ble_eq_true rfl) ⟨Nat.zero_le _, Nat.zero_le _⟩ d_MO_at_3) hP hD hS hA [0, 1, 2, 3, 4, 5, 6, 7, 8, 9] [] [0, 1, 2, 3, 4, 5, 6, 7, 8, 9] rfl (wr := []) rfl (by decide) (by decide) (fun _ => rfl) (by decide) (fun r u_ H locs hq3 hP hD hS => ?_)
  rcases hq3 with ⟨rfl, h3⟩ | ⟨rfl, h3⟩
  · refine cx_if_eq (tgt := 13) hx hb d_MO_at_6 rfl (by omega) (fun h0 => absurd h0 (by decide)) (fun _ => ?_)
    refine cx_iconst hx hb d_MO_at_9 ?_
    refine lv_goto (tgt := 14) hx hb d_MO_at_10 rfl ?_
    refine va_put (D := D) (ci := 5) (v := .int (iI (0))) (ty := .int) (C := R_MO) (T := T_MO) (N := 28) hx hb hT lays_MO t_MO t_MO_ok n_MO hown hK hP hD hS 0 rfl rfl 0 (by decide) (hT _ tw_636) (fun _ h9 => h9) rfl (by decide +kernel) rfl rfl (Nat.le_of_ble_eq_true rfl) d_MO_at_14 (fun H locs hP hD hS => ?_)
    have hP : va_P D vwCl (moW T q n (x 0) (x 1) (mkF (x 2) (x 18 0)) (cdF (x 2) (x 18 0)) (x 3) (x 4) (x 11 0) (x 12 0) (x 13 0) (x 14 0) (x 15 0) (x 16 0) (x 17 0) (x 18 0) (x 19 0) (x 20 0) (x 21 0) (x 22 0) 0 (y 32 0) (y 33 0) (y 34 0) (y 35 0) (y 36 0) (y 37) (y 38) (y 39)) H := hP
    have hD : va_D A (moW T q n (x 0) (x 1) (mkF (x 2) (x 18 0)) (cdF (x 2) (x 18 0)) (x 3) (x 4) (x 11 0) (x 12 0) (x 13 0) (x 14 0) (x 15 0) (x 16 0) (x 17 0) (x 18 0) (x 19 0) (x 20 0) (x 21 0) (x 22 0) 0 (y 32 0) (y 33 0) (y 34 0) (y 35 0) (y 36 0) (y 37) (y 38) (y 39)) := hD
    refine lv_aload_n hx hb d_MO_at_17 rfl (lv_at hl 0 rfl) ?_
    refine va_get (D := D) (ci := 5) (v := .int (iI (0))) (C := R_MO) (T := T_MO) (N := 28) hx hb hT lays_MO hown hK hP 0 rfl rfl 0 (by decide) (hT _ tw_636) (fun _ h9 => h9) rfl d_MO_at_18 ?_
    refine cx_if_le (tgt := 28) hx hb d_MO_at_21 rfl (by omega) (fun _ => ?_) (fun h0 => absurd h0 (by decide))
    refine lv_aload_n hx hb d_MO_at_28 rfl (lv_at hl 0 rfl) ?_
    refine va_get (D := D) (ci := 5) (v := .ref (q 21)) (C := R_MO) (T := T_MO) (N := 28) hx hb hT lays_MO hown hK hP 0 rfl rfl 2 (by decide) (hT _ tw_638) (fun _ h9 => h9) rfl d_MO_at_29 ?_
    refine lv_iload_n hx hb d_MO_at_32 rfl (lv_at hl 1 rfl) ?_
    refine cx_bald (g := iF (x 0)) hx hb hK hP 1 1 rfl rfl (by omega) (by omega) d_MO_at_33 ?_
    have hc33 := hC.1 (z)
    exact hret ((x, up y 31 (cst 0)) : SX × SX) (⟨by rw [if_pos (by omega)], by rw [if_pos (by omega)]⟩) hP hD hS d_MO_at_34
  · refine cx_if_eq (tgt := 13) hx hb d_MO_at_6 rfl (by omega) (fun _ => ?_) (fun h0 => absurd h0 (by decide))
    refine cx_iconst hx hb d_MO_at_13 ?_
    refine va_put (D := D) (ci := 5) (v := .int (iI (1))) (ty := .int) (C := R_MO) (T := T_MO) (N := 28) hx hb hT lays_MO t_MO t_MO_ok n_MO hown hK hP hD hS 0 rfl rfl 0 (by decide) (hT _ tw_636) (fun _ h9 => h9) rfl (by decide +kernel) rfl rfl (Nat.le_of_ble_eq_true rfl) d_MO_at_14 (fun H locs hP hD hS => ?_)
    have hP : va_P D vwCl (moW T q n (x 0) (x 1) (mkF (x 2) (x 18 0)) (cdF (x 2) (x 18 0)) (x 3) (x 4) (x 11 0) (x 12 0) (x 13 0) (x 14 0) (x 15 0) (x 16 0) (x 17 0) (x 18 0) (x 19 0) (x 20 0) (x 21 0) (x 22 0) 1 (y 32 0) (y 33 0) (y 34 0) (y 35 0) (y 36 0) (y 37) (y 38) (y 39)) H := hP
    have hD : va_D A (moW T q n (x 0) (x 1) (mkF (x 2) (x 18 0)) (cdF (x 2) (x 18 0)) (x 3) (x 4) (x 11 0) (x 12 0) (x 13 0) (x 14 0) (x 15 0) (x 16 0) (x 17 0) (x 18 0) (x 19 0) (x 20 0) (x 21 0) (x 22 0) 1 (y 32 0) (y 33 0) (y 34 0) (y 35 0) (y 36 0) (y 37) (y 38) (y 39)) := hD
    refine lv_aload_n hx hb d_MO_at_17 rfl (lv_at hl 0 rfl) ?_
    refine va_get (D := D) (ci := 5) (v := .int (iI (1))) (C := R_MO) (T := T_MO) (N := 28) hx hb hT lays_MO hown hK hP 0 rfl rfl 0 (by decide) (hT _ tw_636) (fun _ h9 => h9) rfl d_MO_at_18 ?_
    refine cx_if_le (tgt := 28) hx hb d_MO_at_21 rfl (by omega) (fun h0 => absurd h0 (by decide)) (fun _ => ?_)
    refine cx_iconst hx hb d_MO_at_24 ?_
    refine lv_goto (tgt := 34) hx hb d_MO_at_25 rfl ?_
    exact hret ((x, up y 31 (cst 1)) : SX × SX) (⟨by rw [if_neg (by omega)], by rw [if_neg (by omega)]⟩) hP hD hS d_MO_at_34

set_option maxHeartbeats 4000000 in
set_option maxRecDepth 100000 in
theorem c_MO_isMarked (l : Launch) (D : va_G) (T : Nat → ClassId) (sz : Nat) (q : Nat → Nat) (n : Nat) (hn : 400 ≤ n ∧ n ≤ 2000) (x y : SX) (hX : okX x) (z : Int) (hz : -2147483648 ≤ z ∧ z < 2147483648) : MI l y_MO_isMarked (wY y_MO_isMarked b_MO_isMarked 2 (some .boolean)) (rmK 1) D vwCl (tyL T) nwL sz [.ref (q 20), .int (iI (z))] (moW T q n (x 0) (x 1) (mkF (x 2) (x 18 0)) (cdF (x 2) (x 18 0)) (x 3) (x 4) (x 11 0) (x 12 0) (x 13 0) (x 14 0) (x 15 0) (x 16 0) (x 17 0) (x 18 0) (x 19 0) (x 20 0) (x 21 0) (x 22 0) (y 31 0) (y 32 0) (y 33 0) (y 34 0) (y 35 0) (y 36 0) (y 37) (y 38) (y 39)) (fun r (u : SX × SX) => r = iI (if 0 ≤ z ∧ z < n then x 1 z else 0) ∧ u = (x, up y 31 (cst (if 0 ≤ z ∧ z < n then 0 else 1)))) (fun (u : SX × SX) => moX T q n u.1 u.2) := by
  refine cx_inZ (by decide) rfl (Nat.le_of_ble_eq_true rfl) ?_
  intro p e s m below meth cd ls A Q hx hb hml hT hown hret hP hK hD hN hS hA hl
  have hown : s.vm.findClass R_MO = some m.cls := hown
  have hl : lv_has ls 2 [(0, .ref (q 20)), (1, .int (iI (z)))] := hl
  have hC := hX.1
  have hR0 := hX.2.1
  have hF := hX.2.2
  unfold okR at hR0
  refine lv_aload_n hx hb d_MO_isMarked_0 rfl (lv_at hl 0 rfl) ?_
  refine lv_aload_n hx hb d_MO_isMarked_1 rfl (lv_at hl 0 rfl) ?_
  refine lv_iload_n hx hb d_MO_isMarked_2 rfl (lv_at hl 1 rfl) ?_
  refine cx_cI (ws2 := fun _ => moW T q n (x 0) (x 1) (mkF (x 2) (x 18 0)) (cdF (x 2) (x 18 0)) (x 3) (x 4) (x 11 0) (x 12 0) (x 13 0) (x 14 0) (x 15 0) (x 16 0) (x 17 0) (x 18 0) (x 19 0) (x 20 0) (x 21 0) (x 22 0) (y 31 0) (y 32 0) (y 33 0) (y 34 0) (y 35 0) (y 36 0) (y 37) (y 38) (y 39)) (cx_rV (q0 := 0) (ci := 5) (rest := [.ref (q 20)]) (As := [.int (iI (z))]) hx hb hml hown hT hK hN hP hD hl.1 tw_731 k_MO_is (c_MO_is l D T s.heap.size q n hn x y hX z (by omega)) ⟨by decide, by decide⟩ ⟨rfl, rfl⟩ [0, 1, 2, 3, 4, 5, 6, 7, 8, 9] (by decide) rfl rfl rfl rfl rfl (Nat.le_of_ble_eq_true rfl) ⟨Nat.zero_le _, Nat.zero_le _⟩ d_MO_isMarked_3) hP hD hS hA [0, 1, 2, 3, 4, 5, 6, 7, 8, 9] [] [0, 1, 2, 3, 4, 5, 6, 7, 8, 9] rfl (wr := []) rfl (by decide) (by decide) (fun _ => rfl) (by decide) (fun r u_ H locs hq3 hP hD hS => ?_)
  rcases hq3 with ⟨rfl, h3⟩ | ⟨rfl, h3⟩
  · refine cx_if_eq (tgt := 13) hx hb d_MO_isMarked_6 rfl (by omega) (fun h0 => absurd h0 (by decide)) (fun _ => ?_)
    refine cx_iconst hx hb d_MO_isMarked_9 ?_
    refine lv_goto (tgt := 14) hx hb d_MO_isMarked_10 rfl ?_
    refine va_put (D := D) (ci := 5) (v := .int (iI (0))) (ty := .int) (C := R_MO) (T := T_MO) (N := 28) hx hb hT lays_MO t_MO t_MO_ok n_MO hown hK hP hD hS 0 rfl rfl 0 (by decide) (hT _ tw_636) (fun _ h9 => h9) rfl (by decide +kernel) rfl rfl (Nat.le_of_ble_eq_true rfl) d_MO_isMarked_14 (fun H locs hP hD hS => ?_)
    have hP : va_P D vwCl (moW T q n (x 0) (x 1) (mkF (x 2) (x 18 0)) (cdF (x 2) (x 18 0)) (x 3) (x 4) (x 11 0) (x 12 0) (x 13 0) (x 14 0) (x 15 0) (x 16 0) (x 17 0) (x 18 0) (x 19 0) (x 20 0) (x 21 0) (x 22 0) 0 (y 32 0) (y 33 0) (y 34 0) (y 35 0) (y 36 0) (y 37) (y 38) (y 39)) H := hP
    have hD : va_D A (moW T q n (x 0) (x 1) (mkF (x 2) (x 18 0)) (cdF (x 2) (x 18 0)) (x 3) (x 4) (x 11 0) (x 12 0) (x 13 0) (x 14 0) (x 15 0) (x 16 0) (x 17 0) (x 18 0) (x 19 0) (x 20 0) (x 21 0) (x 22 0) 0 (y 32 0) (y 33 0) (y 34 0) (y 35 0) (y 36 0) (y 37) (y 38) (y 39)) := hD
    refine lv_aload_n hx hb d_MO_isMarked_17 rfl (lv_at hl 0 rfl) ?_
    refine va_get (D := D) (ci := 5) (v := .int (iI (0))) (C := R_MO) (T := T_MO) (N := 28) hx hb hT lays_MO hown hK hP 0 rfl rfl 0 (by decide) (hT _ tw_636) (fun _ h9 => h9) rfl d_MO_isMarked_18 ?_
    refine cx_if_ne (tgt := 37) hx hb d_MO_isMarked_21 rfl (by omega) (fun h0 => absurd h0 (by decide)) (fun _ => ?_)
    refine lv_aload_n hx hb d_MO_isMarked_24 rfl (lv_at hl 0 rfl) ?_
    refine va_get (D := D) (ci := 5) (v := .ref (q 22)) (C := R_MO) (T := T_MO) (N := 28) hx hb hT lays_MO hown hK hP 0 rfl rfl 3 (by decide) (hT _ tw_639) (fun _ h9 => h9) rfl d_MO_isMarked_25 ?_
    refine lv_iload_n hx hb d_MO_isMarked_28 rfl (lv_at hl 1 rfl) ?_
    refine cx_zald (g := iF (x 1)) hx hb hK hP 2 2 rfl rfl (by omega) (by omega) d_MO_isMarked_29 ?_
    have hm29 := hC.2 (z)
    refine cx_if_eq (tgt := 37) hx hb d_MO_isMarked_30 rfl (by omega) (fun h30 => ?_) (fun h30 => ?_)
    · refine cx_iconst hx hb d_MO_isMarked_37 ?_
      exact hret ((x, up y 31 (cst 0)) : SX × SX) (Or.inl rfl) (⟨by rw [if_pos (by omega)]; congr 1; omega, by rw [if_pos (by omega)]⟩) hP hD hS d_MO_isMarked_38
    · refine cx_iconst hx hb d_MO_isMarked_33 ?_
      refine lv_goto (tgt := 38) hx hb d_MO_isMarked_34 rfl ?_
      exact hret ((x, up y 31 (cst 0)) : SX × SX) (Or.inr rfl) (⟨by rw [if_pos (by omega)]; congr 1; omega, by rw [if_pos (by omega)]⟩) hP hD hS d_MO_isMarked_38
  · refine cx_if_eq (tgt := 13) hx hb d_MO_isMarked_6 rfl (by omega) (fun _ => ?_) (fun h0 => absurd h0 (by decide))
    refine cx_iconst hx hb d_MO_isMarked_13 ?_
    refine va_put (D := D) (ci := 5) (v := .int (iI (1))) (ty := .int) (C := R_MO) (T := T_MO) (N := 28) hx hb hT lays_MO t_MO t_MO_ok n_MO hown hK hP hD hS 0 rfl rfl 0 (by decide) (hT _ tw_636) (fun _ h9 => h9) rfl (by decide +kernel) rfl rfl (Nat.le_of_ble_eq_true rfl) d_MO_isMarked_14 (fun H locs hP hD hS => ?_)
    have hP : va_P D vwCl (moW T q n (x 0) (x 1) (mkF (x 2) (x 18 0)) (cdF (x 2) (x 18 0)) (x 3) (x 4) (x 11 0) (x 12 0) (x 13 0) (x 14 0) (x 15 0) (x 16 0) (x 17 0) (x 18 0) (x 19 0) (x 20 0) (x 21 0) (x 22 0) 1 (y 32 0) (y 33 0) (y 34 0) (y 35 0) (y 36 0) (y 37) (y 38) (y 39)) H := hP
    have hD : va_D A (moW T q n (x 0) (x 1) (mkF (x 2) (x 18 0)) (cdF (x 2) (x 18 0)) (x 3) (x 4) (x 11 0) (x 12 0) (x 13 0) (x 14 0) (x 15 0) (x 16 0) (x 17 0) (x 18 0) (x 19 0) (x 20 0) (x 21 0) (x 22 0) 1 (y 32 0) (y 33 0) (y 34 0) (y 35 0) (y 36 0) (y 37) (y 38) (y 39)) := hD
    refine lv_aload_n hx hb d_MO_isMarked_17 rfl (lv_at hl 0 rfl) ?_
    refine va_get (D := D) (ci := 5) (v := .int (iI (1))) (C := R_MO) (T := T_MO) (N := 28) hx hb hT lays_MO hown hK hP 0 rfl rfl 0 (by decide) (hT _ tw_636) (fun _ h9 => h9) rfl d_MO_isMarked_18 ?_
    refine cx_if_ne (tgt := 37) hx hb d_MO_isMarked_21 rfl (by omega) (fun _ => ?_) (fun h0 => absurd h0 (by decide))
    refine cx_iconst hx hb d_MO_isMarked_37 ?_
    exact hret ((x, up y 31 (cst 1)) : SX × SX) (Or.inl rfl) (⟨by rw [if_neg (by omega)], by rw [if_neg (by omega)]⟩) hP hD hS d_MO_isMarked_38

set_option maxHeartbeats 4000000 in
set_option maxRecDepth 100000 in
theorem c_MO_state (l : Launch) (D : va_G) (T : Nat → ClassId) (sz : Nat) (q : Nat → Nat) (n : Nat) (hn : 400 ≤ n ∧ n ≤ 2000) (x y : SX) (hX : okX x) (v : Int) (hv : -2147483648 ≤ v ∧ v < 2147483648) : MI l y_MO_state (wY y_MO_state b_MO_state 2 (some .int)) (rmK 0) D vwCl (tyL T) nwL sz [.ref (q 20), .int (iI (v))] (moW T q n (x 0) (x 1) (mkF (x 2) (x 18 0)) (cdF (x 2) (x 18 0)) (x 3) (x 4) (x 11 0) (x 12 0) (x 13 0) (x 14 0) (x 15 0) (x 16 0) (x 17 0) (x 18 0) (x 19 0) (x 20 0) (x 21 0) (x 22 0) (y 31 0) (y 32 0) (y 33 0) (y 34 0) (y 35 0) (y 36 0) (y 37) (y 38) (y 39)) (fun r (u : SX × SX) => r = iI (stvS n v x) ∧ u = (x, up y 31 (cst 0))) (fun (u : SX × SX) => moX T q n u.1 u.2) := by
  refine cx_inI (by decide) rfl (Nat.le_of_ble_eq_true rfl) ?_
  intro p e s m below meth cd ls A Q hx hb hml hT hown hret hP hK hD hN hS hA hl
  have hown : s.vm.findClass R_MO = some m.cls := hown
  have hl : lv_has ls 2 [(0, .ref (q 20)), (1, .int (iI (v)))] := hl
  have hC := hX.1
  have hR0 := hX.2.1
  have hF := hX.2.2
  unfold okR at hR0
  refine lv_aload_n hx hb d_MO_state_0 rfl (lv_at hl 0 rfl) ?_
  refine cx_iconst hx hb d_MO_state_1 ?_
  refine va_put (D := D) (ci := 5) (v := .int (iI (0))) (ty := .int) (C := R_MO) (T := T_MO) (N := 28) hx hb hT lays_MO t_MO t_MO_ok n_MO hown hK hP hD hS 0 rfl rfl 0 (by decide) (hT _ tw_636) (fun _ h9 => h9) rfl (by decide +kernel) rfl rfl (Nat.le_of_ble_eq_true rfl) d_MO_state_2 (fun H locs hP hD hS => ?_)
  have hP : va_P D vwCl (moW T q n (x 0) (x 1) (mkF (x 2) (x 18 0)) (cdF (x 2) (x 18 0)) (x 3) (x 4) (x 11 0) (x 12 0) (x 13 0) (x 14 0) (x 15 0) (x 16 0) (x 17 0) (x 18 0) (x 19 0) (x 20 0) (x 21 0) (x 22 0) 0 (y 32 0) (y 33 0) (y 34 0) (y 35 0) (y 36 0) (y 37) (y 38) (y 39)) H := hP
  have hD : va_D A (moW T q n (x 0) (x 1) (mkF (x 2) (x 18 0)) (cdF (x 2) (x 18 0)) (x 3) (x 4) (x 11 0) (x 12 0) (x 13 0) (x 14 0) (x 15 0) (x 16 0) (x 17 0) (x 18 0) (x 19 0) (x 20 0) (x 21 0) (x 22 0) 0 (y 32 0) (y 33 0) (y 34 0) (y 35 0) (y 36 0) (y 37) (y 38) (y 39)) := hD
  refine lv_iload_n hx hb d_MO_state_5 rfl (lv_at hl 1 rfl) ?_
  by_cases hw9 : 0 ≤ v ∧ v < 64
  case neg =>
    refine cx_tsw (tgt := 117) (off := 111) hx hb d_MO_state_6 (by omega) (by unfold tsw; exact if_pos (by omega)) rfl ?_
    refine cx_iconst hx hb d_MO_state_117 ?_
    exact hret ((x, up y 31 (cst 0)) : SX × SX) (⟨by unfold stvS; repeat (first | rfl | omega | (rw [if_pos (by omega)]) | (rw [if_neg (by omega)]) | (congr 1; omega)), by rfl⟩) hP hD hS d_MO_state_118
  obtain ⟨k9, hk9⟩ : ∃ k : Fin 64, v = (k.val : Int) := fin64 (by omega)
  by_cases hs56 : v = 0
  · refine cx_tsw (tgt := 56) (off := 50) hx hb d_MO_state_6 (by omega) (by rw [hk9]; exact sw_mstate_56 k9 (by omega)) rfl ?_
    refine lv_aload_n hx hb d_MO_state_56 rfl (lv_at hl 0 rfl) ?_
    refine va_get (D := D) (ci := 5) (v := .int (iI (x 11 0))) (C := R_MO) (T := T_MO) (N := 28) hx hb hT lays_MO hown hK hP 0 rfl rfl 4 (by decide) (hT _ tw_640) (fun _ h9 => h9) rfl d_MO_state_57 ?_
    exact hret ((x, up y 31 (cst 0)) : SX × SX) (⟨by unfold stvS; repeat (first | rfl | omega | (rw [if_pos (by omega)]) | (rw [if_neg (by omega)]) | (congr 1; omega)), by rfl⟩) hP hD hS d_MO_state_60
  by_cases hs61 : v = 1
  · refine cx_tsw (tgt := 61) (off := 55) hx hb d_MO_state_6 (by omega) (by rw [hk9]; exact sw_mstate_61 k9 (by omega)) rfl ?_
    refine lv_aload_n hx hb d_MO_state_61 rfl (lv_at hl 0 rfl) ?_
    refine va_get (D := D) (ci := 5) (v := .int (iI (x 12 0))) (C := R_MO) (T := T_MO) (N := 28) hx hb hT lays_MO hown hK hP 0 rfl rfl 5 (by decide) (hT _ tw_641) (fun _ h9 => h9) rfl d_MO_state_62 ?_
    exact hret ((x, up y 31 (cst 0)) : SX × SX) (⟨by unfold stvS; repeat (first | rfl | omega | (rw [if_pos (by omega)]) | (rw [if_neg (by omega)]) | (congr 1; omega)), by rfl⟩) hP hD hS d_MO_state_65
  by_cases hs66 : v = 2
  · refine cx_tsw (tgt := 66) (off := 60) hx hb d_MO_state_6 (by omega) (by rw [hk9]; exact sw_mstate_66 k9 (by omega)) rfl ?_
    refine lv_aload_n hx hb d_MO_state_66 rfl (lv_at hl 0 rfl) ?_
    refine va_get (D := D) (ci := 5) (v := .int (iI (x 13 0))) (C := R_MO) (T := T_MO) (N := 28) hx hb hT lays_MO hown hK hP 0 rfl rfl 6 (by decide) (hT _ tw_642) (fun _ h9 => h9) rfl d_MO_state_67 ?_
    exact hret ((x, up y 31 (cst 0)) : SX × SX) (⟨by unfold stvS; repeat (first | rfl | omega | (rw [if_pos (by omega)]) | (rw [if_neg (by omega)]) | (congr 1; omega)), by rfl⟩) hP hD hS d_MO_state_70
  by_cases hs71 : v = 3
  · refine cx_tsw (tgt := 71) (off := 65) hx hb d_MO_state_6 (by omega) (by rw [hk9]; exact sw_mstate_71 k9 (by omega)) rfl ?_
    refine lv_aload_n hx hb d_MO_state_71 rfl (lv_at hl 0 rfl) ?_
    refine va_get (D := D) (ci := 5) (v := .int (iI (x 14 0))) (C := R_MO) (T := T_MO) (N := 28) hx hb hT lays_MO hown hK hP 0 rfl rfl 7 (by decide) (hT _ tw_643) (fun _ h9 => h9) rfl d_MO_state_72 ?_
    exact hret ((x, up y 31 (cst 0)) : SX × SX) (⟨by unfold stvS; repeat (first | rfl | omega | (rw [if_pos (by omega)]) | (rw [if_neg (by omega)]) | (congr 1; omega)), by rfl⟩) hP hD hS d_MO_state_75
  by_cases hs76 : v = 4
  · refine cx_tsw (tgt := 76) (off := 70) hx hb d_MO_state_6 (by omega) (by rw [hk9]; exact sw_mstate_76 k9 (by omega)) rfl ?_
    refine lv_aload_n hx hb d_MO_state_76 rfl (lv_at hl 0 rfl) ?_
    refine va_get (D := D) (ci := 5) (v := .int (iI (x 15 0))) (C := R_MO) (T := T_MO) (N := 28) hx hb hT lays_MO hown hK hP 0 rfl rfl 8 (by decide) (hT _ tw_644) (fun _ h9 => h9) rfl d_MO_state_77 ?_
    refine cx_if_eq (tgt := 87) hx hb d_MO_state_80 rfl (by omega) (fun h80 => ?_) (fun h80 => ?_)
    · refine cx_iconst hx hb d_MO_state_87 ?_
      exact hret ((x, up y 31 (cst 0)) : SX × SX) (⟨by unfold stvS; repeat (first | rfl | omega | (rw [if_pos (by omega)]) | (rw [if_neg (by omega)]) | (congr 1; omega)), by rfl⟩) hP hD hS d_MO_state_88
    · refine cx_iconst hx hb d_MO_state_83 ?_
      refine lv_goto (tgt := 88) hx hb d_MO_state_84 rfl ?_
      exact hret ((x, up y 31 (cst 0)) : SX × SX) (⟨by unfold stvS; repeat (first | rfl | omega | (rw [if_pos (by omega)]) | (rw [if_neg (by omega)]) | (congr 1; omega)), by rfl⟩) hP hD hS d_MO_state_88
  by_cases hs89 : v = 5
  · refine cx_tsw (tgt := 89) (off := 83) hx hb d_MO_state_6 (by omega) (by rw [hk9]; exact sw_mstate_89 k9 (by omega)) rfl ?_
    refine lv_aload_n hx hb d_MO_state_89 rfl (lv_at hl 0 rfl) ?_
    refine va_get (D := D) (ci := 5) (v := .int (iI (x 16 0))) (C := R_MO) (T := T_MO) (N := 28) hx hb hT lays_MO hown hK hP 0 rfl rfl 9 (by decide) (hT _ tw_645) (fun _ h9 => h9) rfl d_MO_state_90 ?_
    refine cx_if_eq (tgt := 100) hx hb d_MO_state_93 rfl (by omega) (fun h93 => ?_) (fun h93 => ?_)
    · refine cx_iconst hx hb d_MO_state_100 ?_
      exact hret ((x, up y 31 (cst 0)) : SX × SX) (⟨by unfold stvS; repeat (first | rfl | omega | (rw [if_pos (by omega)]) | (rw [if_neg (by omega)]) | (congr 1; omega)), by rfl⟩) hP hD hS d_MO_state_101
    · refine cx_iconst hx hb d_MO_state_96 ?_
      refine lv_goto (tgt := 101) hx hb d_MO_state_97 rfl ?_
      exact hret ((x, up y 31 (cst 0)) : SX × SX) (⟨by unfold stvS; repeat (first | rfl | omega | (rw [if_pos (by omega)]) | (rw [if_neg (by omega)]) | (congr 1; omega)), by rfl⟩) hP hD hS d_MO_state_101
  by_cases hs102 : v = 6
  · refine cx_tsw (tgt := 102) (off := 96) hx hb d_MO_state_6 (by omega) (by rw [hk9]; exact sw_mstate_102 k9 (by omega)) rfl ?_
    refine lv_aload_n hx hb d_MO_state_102 rfl (lv_at hl 0 rfl) ?_
    refine va_get (D := D) (ci := 5) (v := .int (iI (x 21 0))) (C := R_MO) (T := T_MO) (N := 28) hx hb hT lays_MO hown hK hP 0 rfl rfl 10 (by decide) (hT _ tw_646) (fun _ h9 => h9) rfl d_MO_state_103 ?_
    exact hret ((x, up y 31 (cst 0)) : SX × SX) (⟨by unfold stvS; repeat (first | rfl | omega | (rw [if_pos (by omega)]) | (rw [if_neg (by omega)]) | (congr 1; omega)), by rfl⟩) hP hD hS d_MO_state_106
  by_cases hs107 : v = 7
  · refine cx_tsw (tgt := 107) (off := 101) hx hb d_MO_state_6 (by omega) (by rw [hk9]; exact sw_mstate_107 k9 (by omega)) rfl ?_
    refine lv_aload_n hx hb d_MO_state_107 rfl (lv_at hl 0 rfl) ?_
    refine va_get (D := D) (ci := 5) (v := .int (iI (x 22 0))) (C := R_MO) (T := T_MO) (N := 28) hx hb hT lays_MO hown hK hP 0 rfl rfl 11 (by decide) (hT _ tw_647) (fun _ h9 => h9) rfl d_MO_state_108 ?_
    exact hret ((x, up y 31 (cst 0)) : SX × SX) (⟨by unfold stvS; repeat (first | rfl | omega | (rw [if_pos (by omega)]) | (rw [if_neg (by omega)]) | (congr 1; omega)), by rfl⟩) hP hD hS d_MO_state_111
  by_cases hs112 : v = 8
  · refine cx_tsw (tgt := 112) (off := 106) hx hb d_MO_state_6 (by omega) (by rw [hk9]; exact sw_mstate_112 k9 (by omega)) rfl ?_
    refine lv_aload_n hx hb d_MO_state_112 rfl (lv_at hl 0 rfl) ?_
    refine va_get (D := D) (ci := 5) (v := .int (iI ((n : Int)))) (C := R_MO) (T := T_MO) (N := 28) hx hb hT lays_MO hown hK hP 0 rfl rfl 1 (by decide) (hT _ tw_637) (fun _ h9 => h9) rfl d_MO_state_113 ?_
    exact hret ((x, up y 31 (cst 0)) : SX × SX) (⟨by unfold stvS; repeat (first | rfl | omega | (rw [if_pos (by omega)]) | (rw [if_neg (by omega)]) | (congr 1; omega)), by rfl⟩) hP hD hS d_MO_state_116
  refine cx_tsw (tgt := 117) (off := 111) hx hb d_MO_state_6 (by omega) (by rw [hk9]; exact sw_mstate_d k9 (by omega)) rfl ?_
  refine cx_iconst hx hb d_MO_state_117 ?_
  exact hret ((x, up y 31 (cst 0)) : SX × SX) (⟨by unfold stvS; repeat (first | rfl | omega | (rw [if_pos (by omega)]) | (rw [if_neg (by omega)]) | (congr 1; omega)), by rfl⟩) hP hD hS d_MO_state_118

set_option maxHeartbeats 4000000 in
set_option maxRecDepth 100000 in
theorem c_MO_printed (l : Launch) (D : va_G) (T : Nat → ClassId) (sz : Nat) (q : Nat → Nat) (n : Nat) (hn : 400 ≤ n ∧ n ≤ 2000) (x y : SX) (hX : okX x) (z k : Int) (hz : -2147483648 ≤ z ∧ z < 2147483648) (hk : -2147483648 ≤ k ∧ k < 2147483648) : MI l y_MO_printed (wY y_MO_printed b_MO_printed 3 (some .int)) (rmK 0) D vwCl (tyL T) nwL sz [.ref (q 20), .int (iI (z)), .int (iI (k))] (moW T q n (x 0) (x 1) (mkF (x 2) (x 18 0)) (cdF (x 2) (x 18 0)) (x 3) (x 4) (x 11 0) (x 12 0) (x 13 0) (x 14 0) (x 15 0) (x 16 0) (x 17 0) (x 18 0) (x 19 0) (x 20 0) (x 21 0) (x 22 0) (y 31 0) (y 32 0) (y 33 0) (y 34 0) (y 35 0) (y 36 0) (y 37) (y 38) (y 39)) (fun r (u : SX × SX) => r = iI (if (0 ≤ z ∧ z < x 19 0) ∧ (1 ≤ k ∧ k ≤ 132) then x 3 (z * 132 + k - 1) else 0) ∧ u = (x, up y 31 (cst (if (0 ≤ z ∧ z < x 19 0) ∧ (1 ≤ k ∧ k ≤ 132) then 0 else 1)))) (fun (u : SX × SX) => moX T q n u.1 u.2) := by
  refine cx_inI (by decide) rfl (Nat.le_of_ble_eq_true rfl) ?_
  intro p e s m below meth cd ls A Q hx hb hml hT hown hret hP hK hD hN hS hA hl
  have hown : s.vm.findClass R_MO = some m.cls := hown
  have hl : lv_has ls 3 [(0, .ref (q 20)), (1, .int (iI (z))), (2, .int (iI (k)))] := hl
  have hC := hX.1
  have hR0 := hX.2.1
  have hF := hX.2.2
  unfold okR at hR0
  refine lv_aload_n hx hb d_MO_printed_0 rfl (lv_at hl 0 rfl) ?_
  refine lv_iload_n hx hb d_MO_printed_1 rfl (lv_at hl 1 rfl) ?_
  refine cx_if_lt (tgt := 29) hx hb d_MO_printed_2 rfl (by omega) (fun h2 => ?_) (fun h2 => ?_)
  · refine cx_iconst hx hb d_MO_printed_29 ?_
    refine va_put (D := D) (ci := 5) (v := .int (iI (1))) (ty := .int) (C := R_MO) (T := T_MO) (N := 28) hx hb hT lays_MO t_MO t_MO_ok n_MO hown hK hP hD hS 0 rfl rfl 0 (by decide) (hT _ tw_636) (fun _ h9 => h9) rfl (by decide +kernel) rfl rfl (Nat.le_of_ble_eq_true rfl) d_MO_printed_30 (fun H locs hP hD hS => ?_)
    have hP : va_P D vwCl (moW T q n (x 0) (x 1) (mkF (x 2) (x 18 0)) (cdF (x 2) (x 18 0)) (x 3) (x 4) (x 11 0) (x 12 0) (x 13 0) (x 14 0) (x 15 0) (x 16 0) (x 17 0) (x 18 0) (x 19 0) (x 20 0) (x 21 0) (x 22 0) 1 (y 32 0) (y 33 0) (y 34 0) (y 35 0) (y 36 0) (y 37) (y 38) (y 39)) H := hP
    have hD : va_D A (moW T q n (x 0) (x 1) (mkF (x 2) (x 18 0)) (cdF (x 2) (x 18 0)) (x 3) (x 4) (x 11 0) (x 12 0) (x 13 0) (x 14 0) (x 15 0) (x 16 0) (x 17 0) (x 18 0) (x 19 0) (x 20 0) (x 21 0) (x 22 0) 1 (y 32 0) (y 33 0) (y 34 0) (y 35 0) (y 36 0) (y 37) (y 38) (y 39)) := hD
    refine lv_aload_n hx hb d_MO_printed_33 rfl (lv_at hl 0 rfl) ?_
    refine va_get (D := D) (ci := 5) (v := .int (iI (1))) (C := R_MO) (T := T_MO) (N := 28) hx hb hT lays_MO hown hK hP 0 rfl rfl 0 (by decide) (hT _ tw_636) (fun _ h9 => h9) rfl d_MO_printed_34 ?_
    refine cx_if_le (tgt := 44) hx hb d_MO_printed_37 rfl (by omega) (fun h0 => absurd h0 (by decide)) (fun _ => ?_)
    refine cx_iconst hx hb d_MO_printed_40 ?_
    refine lv_goto (tgt := 58) hx hb d_MO_printed_41 rfl ?_
    exact hret ((x, up y 31 (cst 1)) : SX × SX) (⟨by rw [if_neg (by omega)], by rw [if_neg (by omega)]⟩) hP hD hS d_MO_printed_58
  · refine lv_iload_n hx hb d_MO_printed_5 rfl (lv_at hl 1 rfl) ?_
    refine lv_aload_n hx hb d_MO_printed_6 rfl (lv_at hl 0 rfl) ?_
    refine va_get (D := D) (ci := 5) (v := .int (iI (x 19 0))) (C := R_MO) (T := T_MO) (N := 28) hx hb hT lays_MO hown hK hP 0 rfl rfl 21 (by decide) (hT _ tw_657) (fun _ h9 => h9) rfl d_MO_printed_7 ?_
    refine cx_icmp_ge (tgt := 29) hx hb d_MO_printed_10 rfl (by omega) (by omega) (fun h10 => ?_) (fun h10 => ?_)
    · refine cx_iconst hx hb d_MO_printed_29 ?_
      refine va_put (D := D) (ci := 5) (v := .int (iI (1))) (ty := .int) (C := R_MO) (T := T_MO) (N := 28) hx hb hT lays_MO t_MO t_MO_ok n_MO hown hK hP hD hS 0 rfl rfl 0 (by decide) (hT _ tw_636) (fun _ h9 => h9) rfl (by decide +kernel) rfl rfl (Nat.le_of_ble_eq_true rfl) d_MO_printed_30 (fun H locs hP hD hS => ?_)
      have hP : va_P D vwCl (moW T q n (x 0) (x 1) (mkF (x 2) (x 18 0)) (cdF (x 2) (x 18 0)) (x 3) (x 4) (x 11 0) (x 12 0) (x 13 0) (x 14 0) (x 15 0) (x 16 0) (x 17 0) (x 18 0) (x 19 0) (x 20 0) (x 21 0) (x 22 0) 1 (y 32 0) (y 33 0) (y 34 0) (y 35 0) (y 36 0) (y 37) (y 38) (y 39)) H := hP
      have hD : va_D A (moW T q n (x 0) (x 1) (mkF (x 2) (x 18 0)) (cdF (x 2) (x 18 0)) (x 3) (x 4) (x 11 0) (x 12 0) (x 13 0) (x 14 0) (x 15 0) (x 16 0) (x 17 0) (x 18 0) (x 19 0) (x 20 0) (x 21 0) (x 22 0) 1 (y 32 0) (y 33 0) (y 34 0) (y 35 0) (y 36 0) (y 37) (y 38) (y 39)) := hD
      refine lv_aload_n hx hb d_MO_printed_33 rfl (lv_at hl 0 rfl) ?_
      refine va_get (D := D) (ci := 5) (v := .int (iI (1))) (C := R_MO) (T := T_MO) (N := 28) hx hb hT lays_MO hown hK hP 0 rfl rfl 0 (by decide) (hT _ tw_636) (fun _ h9 => h9) rfl d_MO_printed_34 ?_
      refine cx_if_le (tgt := 44) hx hb d_MO_printed_37 rfl (by omega) (fun h0 => absurd h0 (by decide)) (fun _ => ?_)
      refine cx_iconst hx hb d_MO_printed_40 ?_
      refine lv_goto (tgt := 58) hx hb d_MO_printed_41 rfl ?_
      exact hret ((x, up y 31 (cst 1)) : SX × SX) (⟨by rw [if_neg (by omega)], by rw [if_neg (by omega)]⟩) hP hD hS d_MO_printed_58
    · refine lv_iload_n hx hb d_MO_printed_13 rfl (lv_at hl 2 rfl) ?_
      refine cx_iconst hx hb d_MO_printed_14 ?_
      refine cx_icmp_lt (tgt := 29) hx hb d_MO_printed_15 rfl (by omega) (by omega) (fun h15 => ?_) (fun h15 => ?_)
      · refine cx_iconst hx hb d_MO_printed_29 ?_
        refine va_put (D := D) (ci := 5) (v := .int (iI (1))) (ty := .int) (C := R_MO) (T := T_MO) (N := 28) hx hb hT lays_MO t_MO t_MO_ok n_MO hown hK hP hD hS 0 rfl rfl 0 (by decide) (hT _ tw_636) (fun _ h9 => h9) rfl (by decide +kernel) rfl rfl (Nat.le_of_ble_eq_true rfl) d_MO_printed_30 (fun H locs hP hD hS => ?_)
        have hP : va_P D vwCl (moW T q n (x 0) (x 1) (mkF (x 2) (x 18 0)) (cdF (x 2) (x 18 0)) (x 3) (x 4) (x 11 0) (x 12 0) (x 13 0) (x 14 0) (x 15 0) (x 16 0) (x 17 0) (x 18 0) (x 19 0) (x 20 0) (x 21 0) (x 22 0) 1 (y 32 0) (y 33 0) (y 34 0) (y 35 0) (y 36 0) (y 37) (y 38) (y 39)) H := hP
        have hD : va_D A (moW T q n (x 0) (x 1) (mkF (x 2) (x 18 0)) (cdF (x 2) (x 18 0)) (x 3) (x 4) (x 11 0) (x 12 0) (x 13 0) (x 14 0) (x 15 0) (x 16 0) (x 17 0) (x 18 0) (x 19 0) (x 20 0) (x 21 0) (x 22 0) 1 (y 32 0) (y 33 0) (y 34 0) (y 35 0) (y 36 0) (y 37) (y 38) (y 39)) := hD
        refine lv_aload_n hx hb d_MO_printed_33 rfl (lv_at hl 0 rfl) ?_
        refine va_get (D := D) (ci := 5) (v := .int (iI (1))) (C := R_MO) (T := T_MO) (N := 28) hx hb hT lays_MO hown hK hP 0 rfl rfl 0 (by decide) (hT _ tw_636) (fun _ h9 => h9) rfl d_MO_printed_34 ?_
        refine cx_if_le (tgt := 44) hx hb d_MO_printed_37 rfl (by omega) (fun h0 => absurd h0 (by decide)) (fun _ => ?_)
        refine cx_iconst hx hb d_MO_printed_40 ?_
        refine lv_goto (tgt := 58) hx hb d_MO_printed_41 rfl ?_
        exact hret ((x, up y 31 (cst 1)) : SX × SX) (⟨by rw [if_neg (by omega)], by rw [if_neg (by omega)]⟩) hP hD hS d_MO_printed_58
      · refine lv_iload_n hx hb d_MO_printed_18 rfl (lv_at hl 2 rfl) ?_
        refine cx_sipush hx hb d_MO_printed_19 rfl ?_
        refine cx_icmp_gt (tgt := 29) hx hb d_MO_printed_22 rfl (by omega) (by omega) (fun h22 => ?_) (fun h22 => ?_)
        · refine cx_iconst hx hb d_MO_printed_29 ?_
          refine va_put (D := D) (ci := 5) (v := .int (iI (1))) (ty := .int) (C := R_MO) (T := T_MO) (N := 28) hx hb hT lays_MO t_MO t_MO_ok n_MO hown hK hP hD hS 0 rfl rfl 0 (by decide) (hT _ tw_636) (fun _ h9 => h9) rfl (by decide +kernel) rfl rfl (Nat.le_of_ble_eq_true rfl) d_MO_printed_30 (fun H locs hP hD hS => ?_)
          have hP : va_P D vwCl (moW T q n (x 0) (x 1) (mkF (x 2) (x 18 0)) (cdF (x 2) (x 18 0)) (x 3) (x 4) (x 11 0) (x 12 0) (x 13 0) (x 14 0) (x 15 0) (x 16 0) (x 17 0) (x 18 0) (x 19 0) (x 20 0) (x 21 0) (x 22 0) 1 (y 32 0) (y 33 0) (y 34 0) (y 35 0) (y 36 0) (y 37) (y 38) (y 39)) H := hP
          have hD : va_D A (moW T q n (x 0) (x 1) (mkF (x 2) (x 18 0)) (cdF (x 2) (x 18 0)) (x 3) (x 4) (x 11 0) (x 12 0) (x 13 0) (x 14 0) (x 15 0) (x 16 0) (x 17 0) (x 18 0) (x 19 0) (x 20 0) (x 21 0) (x 22 0) 1 (y 32 0) (y 33 0) (y 34 0) (y 35 0) (y 36 0) (y 37) (y 38) (y 39)) := hD
          refine lv_aload_n hx hb d_MO_printed_33 rfl (lv_at hl 0 rfl) ?_
          refine va_get (D := D) (ci := 5) (v := .int (iI (1))) (C := R_MO) (T := T_MO) (N := 28) hx hb hT lays_MO hown hK hP 0 rfl rfl 0 (by decide) (hT _ tw_636) (fun _ h9 => h9) rfl d_MO_printed_34 ?_
          refine cx_if_le (tgt := 44) hx hb d_MO_printed_37 rfl (by omega) (fun h0 => absurd h0 (by decide)) (fun _ => ?_)
          refine cx_iconst hx hb d_MO_printed_40 ?_
          refine lv_goto (tgt := 58) hx hb d_MO_printed_41 rfl ?_
          exact hret ((x, up y 31 (cst 1)) : SX × SX) (⟨by rw [if_neg (by omega)], by rw [if_neg (by omega)]⟩) hP hD hS d_MO_printed_58
        · refine cx_iconst hx hb d_MO_printed_25 ?_
          refine lv_goto (tgt := 30) hx hb d_MO_printed_26 rfl ?_
          refine va_put (D := D) (ci := 5) (v := .int (iI (0))) (ty := .int) (C := R_MO) (T := T_MO) (N := 28) hx hb hT lays_MO t_MO t_MO_ok n_MO hown hK hP hD hS 0 rfl rfl 0 (by decide) (hT _ tw_636) (fun _ h9 => h9) rfl (by decide +kernel) rfl rfl (Nat.le_of_ble_eq_true rfl) d_MO_printed_30 (fun H locs hP hD hS => ?_)
          have hP : va_P D vwCl (moW T q n (x 0) (x 1) (mkF (x 2) (x 18 0)) (cdF (x 2) (x 18 0)) (x 3) (x 4) (x 11 0) (x 12 0) (x 13 0) (x 14 0) (x 15 0) (x 16 0) (x 17 0) (x 18 0) (x 19 0) (x 20 0) (x 21 0) (x 22 0) 0 (y 32 0) (y 33 0) (y 34 0) (y 35 0) (y 36 0) (y 37) (y 38) (y 39)) H := hP
          have hD : va_D A (moW T q n (x 0) (x 1) (mkF (x 2) (x 18 0)) (cdF (x 2) (x 18 0)) (x 3) (x 4) (x 11 0) (x 12 0) (x 13 0) (x 14 0) (x 15 0) (x 16 0) (x 17 0) (x 18 0) (x 19 0) (x 20 0) (x 21 0) (x 22 0) 0 (y 32 0) (y 33 0) (y 34 0) (y 35 0) (y 36 0) (y 37) (y 38) (y 39)) := hD
          refine lv_aload_n hx hb d_MO_printed_33 rfl (lv_at hl 0 rfl) ?_
          refine va_get (D := D) (ci := 5) (v := .int (iI (0))) (C := R_MO) (T := T_MO) (N := 28) hx hb hT lays_MO hown hK hP 0 rfl rfl 0 (by decide) (hT _ tw_636) (fun _ h9 => h9) rfl d_MO_printed_34 ?_
          refine cx_if_le (tgt := 44) hx hb d_MO_printed_37 rfl (by omega) (fun _ => ?_) (fun h0 => absurd h0 (by decide))
          refine lv_aload_n hx hb d_MO_printed_44 rfl (lv_at hl 0 rfl) ?_
          refine va_get (D := D) (ci := 5) (v := .ref (q 25)) (C := R_MO) (T := T_MO) (N := 28) hx hb hT lays_MO hown hK hP 0 rfl rfl 22 (by decide) (hT _ tw_658) (fun _ h9 => h9) rfl d_MO_printed_45 ?_
          refine cx_sipush hx hb d_MO_printed_48 rfl ?_
          refine lv_iload_n hx hb d_MO_printed_51 rfl (lv_at hl 1 rfl) ?_
          refine cx_imul hx hb d_MO_printed_52 ?_
          refine lv_iload_n hx hb d_MO_printed_53 rfl (lv_at hl 2 rfl) ?_
          refine cx_iadd hx hb d_MO_printed_54 ?_
          refine cx_iconst hx hb d_MO_printed_55 ?_
          refine cx_isub hx hb d_MO_printed_56 ?_
          refine cx_bald (g := iF (x 3)) hx hb hK hP 5 1 rfl rfl (by omega) (by omega) d_MO_printed_57 ?_
          exact hret ((x, up y 31 (cst 0)) : SX × SX) (⟨by rw [if_pos (by omega), Int.mul_comm z 132], by rw [if_pos (by omega)]⟩) hP hD hS d_MO_printed_58

set_option maxHeartbeats 4000000 in
set_option maxRecDepth 100000 in
theorem c_MO_punched (l : Launch) (D : va_G) (T : Nat → ClassId) (sz : Nat) (q : Nat → Nat) (n : Nat) (hn : 400 ≤ n ∧ n ≤ 2000) (x y : SX) (hX : okX x) (z k : Int) (hz : -2147483648 ≤ z ∧ z < 2147483648) (hk : -2147483648 ≤ k ∧ k < 2147483648) : MI l y_MO_punched (wY y_MO_punched b_MO_punched 3 (some .int)) (rmK 0) D vwCl (tyL T) nwL sz [.ref (q 20), .int (iI (z)), .int (iI (k))] (moW T q n (x 0) (x 1) (mkF (x 2) (x 18 0)) (cdF (x 2) (x 18 0)) (x 3) (x 4) (x 11 0) (x 12 0) (x 13 0) (x 14 0) (x 15 0) (x 16 0) (x 17 0) (x 18 0) (x 19 0) (x 20 0) (x 21 0) (x 22 0) (y 31 0) (y 32 0) (y 33 0) (y 34 0) (y 35 0) (y 36 0) (y 37) (y 38) (y 39)) (fun r (u : SX × SX) => r = iI (if (0 ≤ z ∧ z < x 20 0) ∧ (1 ≤ k ∧ k ≤ 80) then x 4 (z * 80 + k - 1) else 0) ∧ u = (x, up y 31 (cst (if (0 ≤ z ∧ z < x 20 0) ∧ (1 ≤ k ∧ k ≤ 80) then 0 else 1)))) (fun (u : SX × SX) => moX T q n u.1 u.2) := by
  refine cx_inI (by decide) rfl (Nat.le_of_ble_eq_true rfl) ?_
  intro p e s m below meth cd ls A Q hx hb hml hT hown hret hP hK hD hN hS hA hl
  have hown : s.vm.findClass R_MO = some m.cls := hown
  have hl : lv_has ls 3 [(0, .ref (q 20)), (1, .int (iI (z))), (2, .int (iI (k)))] := hl
  have hC := hX.1
  have hR0 := hX.2.1
  have hF := hX.2.2
  unfold okR at hR0
  refine lv_aload_n hx hb d_MO_punched_0 rfl (lv_at hl 0 rfl) ?_
  refine lv_iload_n hx hb d_MO_punched_1 rfl (lv_at hl 1 rfl) ?_
  refine cx_if_lt (tgt := 28) hx hb d_MO_punched_2 rfl (by omega) (fun h2 => ?_) (fun h2 => ?_)
  · refine cx_iconst hx hb d_MO_punched_28 ?_
    refine va_put (D := D) (ci := 5) (v := .int (iI (1))) (ty := .int) (C := R_MO) (T := T_MO) (N := 28) hx hb hT lays_MO t_MO t_MO_ok n_MO hown hK hP hD hS 0 rfl rfl 0 (by decide) (hT _ tw_636) (fun _ h9 => h9) rfl (by decide +kernel) rfl rfl (Nat.le_of_ble_eq_true rfl) d_MO_punched_29 (fun H locs hP hD hS => ?_)
    have hP : va_P D vwCl (moW T q n (x 0) (x 1) (mkF (x 2) (x 18 0)) (cdF (x 2) (x 18 0)) (x 3) (x 4) (x 11 0) (x 12 0) (x 13 0) (x 14 0) (x 15 0) (x 16 0) (x 17 0) (x 18 0) (x 19 0) (x 20 0) (x 21 0) (x 22 0) 1 (y 32 0) (y 33 0) (y 34 0) (y 35 0) (y 36 0) (y 37) (y 38) (y 39)) H := hP
    have hD : va_D A (moW T q n (x 0) (x 1) (mkF (x 2) (x 18 0)) (cdF (x 2) (x 18 0)) (x 3) (x 4) (x 11 0) (x 12 0) (x 13 0) (x 14 0) (x 15 0) (x 16 0) (x 17 0) (x 18 0) (x 19 0) (x 20 0) (x 21 0) (x 22 0) 1 (y 32 0) (y 33 0) (y 34 0) (y 35 0) (y 36 0) (y 37) (y 38) (y 39)) := hD
    refine lv_aload_n hx hb d_MO_punched_32 rfl (lv_at hl 0 rfl) ?_
    refine va_get (D := D) (ci := 5) (v := .int (iI (1))) (C := R_MO) (T := T_MO) (N := 28) hx hb hT lays_MO hown hK hP 0 rfl rfl 0 (by decide) (hT _ tw_636) (fun _ h9 => h9) rfl d_MO_punched_33 ?_
    refine cx_if_le (tgt := 43) hx hb d_MO_punched_36 rfl (by omega) (fun h0 => absurd h0 (by decide)) (fun _ => ?_)
    refine cx_iconst hx hb d_MO_punched_39 ?_
    refine lv_goto (tgt := 56) hx hb d_MO_punched_40 rfl ?_
    exact hret ((x, up y 31 (cst 1)) : SX × SX) (⟨by rw [if_neg (by omega)], by rw [if_neg (by omega)]⟩) hP hD hS d_MO_punched_56
  · refine lv_iload_n hx hb d_MO_punched_5 rfl (lv_at hl 1 rfl) ?_
    refine lv_aload_n hx hb d_MO_punched_6 rfl (lv_at hl 0 rfl) ?_
    refine va_get (D := D) (ci := 5) (v := .int (iI (x 20 0))) (C := R_MO) (T := T_MO) (N := 28) hx hb hT lays_MO hown hK hP 0 rfl rfl 23 (by decide) (hT _ tw_659) (fun _ h9 => h9) rfl d_MO_punched_7 ?_
    refine cx_icmp_ge (tgt := 28) hx hb d_MO_punched_10 rfl (by omega) (by omega) (fun h10 => ?_) (fun h10 => ?_)
    · refine cx_iconst hx hb d_MO_punched_28 ?_
      refine va_put (D := D) (ci := 5) (v := .int (iI (1))) (ty := .int) (C := R_MO) (T := T_MO) (N := 28) hx hb hT lays_MO t_MO t_MO_ok n_MO hown hK hP hD hS 0 rfl rfl 0 (by decide) (hT _ tw_636) (fun _ h9 => h9) rfl (by decide +kernel) rfl rfl (Nat.le_of_ble_eq_true rfl) d_MO_punched_29 (fun H locs hP hD hS => ?_)
      have hP : va_P D vwCl (moW T q n (x 0) (x 1) (mkF (x 2) (x 18 0)) (cdF (x 2) (x 18 0)) (x 3) (x 4) (x 11 0) (x 12 0) (x 13 0) (x 14 0) (x 15 0) (x 16 0) (x 17 0) (x 18 0) (x 19 0) (x 20 0) (x 21 0) (x 22 0) 1 (y 32 0) (y 33 0) (y 34 0) (y 35 0) (y 36 0) (y 37) (y 38) (y 39)) H := hP
      have hD : va_D A (moW T q n (x 0) (x 1) (mkF (x 2) (x 18 0)) (cdF (x 2) (x 18 0)) (x 3) (x 4) (x 11 0) (x 12 0) (x 13 0) (x 14 0) (x 15 0) (x 16 0) (x 17 0) (x 18 0) (x 19 0) (x 20 0) (x 21 0) (x 22 0) 1 (y 32 0) (y 33 0) (y 34 0) (y 35 0) (y 36 0) (y 37) (y 38) (y 39)) := hD
      refine lv_aload_n hx hb d_MO_punched_32 rfl (lv_at hl 0 rfl) ?_
      refine va_get (D := D) (ci := 5) (v := .int (iI (1))) (C := R_MO) (T := T_MO) (N := 28) hx hb hT lays_MO hown hK hP 0 rfl rfl 0 (by decide) (hT _ tw_636) (fun _ h9 => h9) rfl d_MO_punched_33 ?_
      refine cx_if_le (tgt := 43) hx hb d_MO_punched_36 rfl (by omega) (fun h0 => absurd h0 (by decide)) (fun _ => ?_)
      refine cx_iconst hx hb d_MO_punched_39 ?_
      refine lv_goto (tgt := 56) hx hb d_MO_punched_40 rfl ?_
      exact hret ((x, up y 31 (cst 1)) : SX × SX) (⟨by rw [if_neg (by omega)], by rw [if_neg (by omega)]⟩) hP hD hS d_MO_punched_56
    · refine lv_iload_n hx hb d_MO_punched_13 rfl (lv_at hl 2 rfl) ?_
      refine cx_iconst hx hb d_MO_punched_14 ?_
      refine cx_icmp_lt (tgt := 28) hx hb d_MO_punched_15 rfl (by omega) (by omega) (fun h15 => ?_) (fun h15 => ?_)
      · refine cx_iconst hx hb d_MO_punched_28 ?_
        refine va_put (D := D) (ci := 5) (v := .int (iI (1))) (ty := .int) (C := R_MO) (T := T_MO) (N := 28) hx hb hT lays_MO t_MO t_MO_ok n_MO hown hK hP hD hS 0 rfl rfl 0 (by decide) (hT _ tw_636) (fun _ h9 => h9) rfl (by decide +kernel) rfl rfl (Nat.le_of_ble_eq_true rfl) d_MO_punched_29 (fun H locs hP hD hS => ?_)
        have hP : va_P D vwCl (moW T q n (x 0) (x 1) (mkF (x 2) (x 18 0)) (cdF (x 2) (x 18 0)) (x 3) (x 4) (x 11 0) (x 12 0) (x 13 0) (x 14 0) (x 15 0) (x 16 0) (x 17 0) (x 18 0) (x 19 0) (x 20 0) (x 21 0) (x 22 0) 1 (y 32 0) (y 33 0) (y 34 0) (y 35 0) (y 36 0) (y 37) (y 38) (y 39)) H := hP
        have hD : va_D A (moW T q n (x 0) (x 1) (mkF (x 2) (x 18 0)) (cdF (x 2) (x 18 0)) (x 3) (x 4) (x 11 0) (x 12 0) (x 13 0) (x 14 0) (x 15 0) (x 16 0) (x 17 0) (x 18 0) (x 19 0) (x 20 0) (x 21 0) (x 22 0) 1 (y 32 0) (y 33 0) (y 34 0) (y 35 0) (y 36 0) (y 37) (y 38) (y 39)) := hD
        refine lv_aload_n hx hb d_MO_punched_32 rfl (lv_at hl 0 rfl) ?_
        refine va_get (D := D) (ci := 5) (v := .int (iI (1))) (C := R_MO) (T := T_MO) (N := 28) hx hb hT lays_MO hown hK hP 0 rfl rfl 0 (by decide) (hT _ tw_636) (fun _ h9 => h9) rfl d_MO_punched_33 ?_
        refine cx_if_le (tgt := 43) hx hb d_MO_punched_36 rfl (by omega) (fun h0 => absurd h0 (by decide)) (fun _ => ?_)
        refine cx_iconst hx hb d_MO_punched_39 ?_
        refine lv_goto (tgt := 56) hx hb d_MO_punched_40 rfl ?_
        exact hret ((x, up y 31 (cst 1)) : SX × SX) (⟨by rw [if_neg (by omega)], by rw [if_neg (by omega)]⟩) hP hD hS d_MO_punched_56
      · refine lv_iload_n hx hb d_MO_punched_18 rfl (lv_at hl 2 rfl) ?_
        refine cx_bipush hx hb d_MO_punched_19 rfl ?_
        refine cx_icmp_gt (tgt := 28) hx hb d_MO_punched_21 rfl (by omega) (by omega) (fun h21 => ?_) (fun h21 => ?_)
        · refine cx_iconst hx hb d_MO_punched_28 ?_
          refine va_put (D := D) (ci := 5) (v := .int (iI (1))) (ty := .int) (C := R_MO) (T := T_MO) (N := 28) hx hb hT lays_MO t_MO t_MO_ok n_MO hown hK hP hD hS 0 rfl rfl 0 (by decide) (hT _ tw_636) (fun _ h9 => h9) rfl (by decide +kernel) rfl rfl (Nat.le_of_ble_eq_true rfl) d_MO_punched_29 (fun H locs hP hD hS => ?_)
          have hP : va_P D vwCl (moW T q n (x 0) (x 1) (mkF (x 2) (x 18 0)) (cdF (x 2) (x 18 0)) (x 3) (x 4) (x 11 0) (x 12 0) (x 13 0) (x 14 0) (x 15 0) (x 16 0) (x 17 0) (x 18 0) (x 19 0) (x 20 0) (x 21 0) (x 22 0) 1 (y 32 0) (y 33 0) (y 34 0) (y 35 0) (y 36 0) (y 37) (y 38) (y 39)) H := hP
          have hD : va_D A (moW T q n (x 0) (x 1) (mkF (x 2) (x 18 0)) (cdF (x 2) (x 18 0)) (x 3) (x 4) (x 11 0) (x 12 0) (x 13 0) (x 14 0) (x 15 0) (x 16 0) (x 17 0) (x 18 0) (x 19 0) (x 20 0) (x 21 0) (x 22 0) 1 (y 32 0) (y 33 0) (y 34 0) (y 35 0) (y 36 0) (y 37) (y 38) (y 39)) := hD
          refine lv_aload_n hx hb d_MO_punched_32 rfl (lv_at hl 0 rfl) ?_
          refine va_get (D := D) (ci := 5) (v := .int (iI (1))) (C := R_MO) (T := T_MO) (N := 28) hx hb hT lays_MO hown hK hP 0 rfl rfl 0 (by decide) (hT _ tw_636) (fun _ h9 => h9) rfl d_MO_punched_33 ?_
          refine cx_if_le (tgt := 43) hx hb d_MO_punched_36 rfl (by omega) (fun h0 => absurd h0 (by decide)) (fun _ => ?_)
          refine cx_iconst hx hb d_MO_punched_39 ?_
          refine lv_goto (tgt := 56) hx hb d_MO_punched_40 rfl ?_
          exact hret ((x, up y 31 (cst 1)) : SX × SX) (⟨by rw [if_neg (by omega)], by rw [if_neg (by omega)]⟩) hP hD hS d_MO_punched_56
        · refine cx_iconst hx hb d_MO_punched_24 ?_
          refine lv_goto (tgt := 29) hx hb d_MO_punched_25 rfl ?_
          refine va_put (D := D) (ci := 5) (v := .int (iI (0))) (ty := .int) (C := R_MO) (T := T_MO) (N := 28) hx hb hT lays_MO t_MO t_MO_ok n_MO hown hK hP hD hS 0 rfl rfl 0 (by decide) (hT _ tw_636) (fun _ h9 => h9) rfl (by decide +kernel) rfl rfl (Nat.le_of_ble_eq_true rfl) d_MO_punched_29 (fun H locs hP hD hS => ?_)
          have hP : va_P D vwCl (moW T q n (x 0) (x 1) (mkF (x 2) (x 18 0)) (cdF (x 2) (x 18 0)) (x 3) (x 4) (x 11 0) (x 12 0) (x 13 0) (x 14 0) (x 15 0) (x 16 0) (x 17 0) (x 18 0) (x 19 0) (x 20 0) (x 21 0) (x 22 0) 0 (y 32 0) (y 33 0) (y 34 0) (y 35 0) (y 36 0) (y 37) (y 38) (y 39)) H := hP
          have hD : va_D A (moW T q n (x 0) (x 1) (mkF (x 2) (x 18 0)) (cdF (x 2) (x 18 0)) (x 3) (x 4) (x 11 0) (x 12 0) (x 13 0) (x 14 0) (x 15 0) (x 16 0) (x 17 0) (x 18 0) (x 19 0) (x 20 0) (x 21 0) (x 22 0) 0 (y 32 0) (y 33 0) (y 34 0) (y 35 0) (y 36 0) (y 37) (y 38) (y 39)) := hD
          refine lv_aload_n hx hb d_MO_punched_32 rfl (lv_at hl 0 rfl) ?_
          refine va_get (D := D) (ci := 5) (v := .int (iI (0))) (C := R_MO) (T := T_MO) (N := 28) hx hb hT lays_MO hown hK hP 0 rfl rfl 0 (by decide) (hT _ tw_636) (fun _ h9 => h9) rfl d_MO_punched_33 ?_
          refine cx_if_le (tgt := 43) hx hb d_MO_punched_36 rfl (by omega) (fun _ => ?_) (fun h0 => absurd h0 (by decide))
          refine lv_aload_n hx hb d_MO_punched_43 rfl (lv_at hl 0 rfl) ?_
          refine va_get (D := D) (ci := 5) (v := .ref (q 26)) (C := R_MO) (T := T_MO) (N := 28) hx hb hT lays_MO hown hK hP 0 rfl rfl 24 (by decide) (hT _ tw_660) (fun _ h9 => h9) rfl d_MO_punched_44 ?_
          refine cx_bipush hx hb d_MO_punched_47 rfl ?_
          refine lv_iload_n hx hb d_MO_punched_49 rfl (lv_at hl 1 rfl) ?_
          refine cx_imul hx hb d_MO_punched_50 ?_
          refine lv_iload_n hx hb d_MO_punched_51 rfl (lv_at hl 2 rfl) ?_
          refine cx_iadd hx hb d_MO_punched_52 ?_
          refine cx_iconst hx hb d_MO_punched_53 ?_
          refine cx_isub hx hb d_MO_punched_54 ?_
          refine cx_bald (g := iF (x 4)) hx hb hK hP 6 1 rfl rfl (by omega) (by omega) d_MO_punched_55 ?_
          exact hret ((x, up y 31 (cst 0)) : SX × SX) (⟨by rw [if_pos (by omega), Int.mul_comm z 80], by rw [if_pos (by omega)]⟩) hP hD hS d_MO_punched_56

set_option maxHeartbeats 4000000 in
set_option maxRecDepth 100000 in
theorem c_MO_count (l : Launch) (D : va_G) (T : Nat → ClassId) (sz : Nat) (q : Nat → Nat) (n : Nat) (hn : 400 ≤ n ∧ n ≤ 2000) (x y : SX) (hX : okX x) (v : Int) (hv : -2147483648 ≤ v ∧ v < 2147483648) : MI l y_MO_count (wY y_MO_count b_MO_count 4 (some .int)) (rmK 0) D vwCl (tyL T) nwL sz [.ref (q 20), .int (iI (v))] (moW T q n (x 0) (x 1) (mkF (x 2) (x 18 0)) (cdF (x 2) (x 18 0)) (x 3) (x 4) (x 11 0) (x 12 0) (x 13 0) (x 14 0) (x 15 0) (x 16 0) (x 17 0) (x 18 0) (x 19 0) (x 20 0) (x 21 0) (x 22 0) (y 31 0) (y 32 0) (y 33 0) (y 34 0) (y 35 0) (y 36 0) (y 37) (y 38) (y 39)) (fun r (u : SX × SX) => r = iI (cntS n v x) ∧ u = (x, up y 31 (cst 0))) (fun (u : SX × SX) => moX T q n u.1 u.2) := by
  refine cx_inI (by decide) rfl (Nat.le_of_ble_eq_true rfl) ?_
  intro p e s m below meth cd ls A Q hx hb hml hT hown hret hP hK hD hN hS hA hl
  have hown : s.vm.findClass R_MO = some m.cls := hown
  have hl : lv_has ls 4 [(0, .ref (q 20)), (1, .int (iI (v)))] := hl
  have hC := hX.1
  have hR0 := hX.2.1
  have hF := hX.2.2
  unfold okR at hR0
  refine lv_aload_n hx hb d_MO_count_0 rfl (lv_at hl 0 rfl) ?_
  refine cx_iconst hx hb d_MO_count_1 ?_
  refine va_put (D := D) (ci := 5) (v := .int (iI (0))) (ty := .int) (C := R_MO) (T := T_MO) (N := 28) hx hb hT lays_MO t_MO t_MO_ok n_MO hown hK hP hD hS 0 rfl rfl 0 (by decide) (hT _ tw_636) (fun _ h9 => h9) rfl (by decide +kernel) rfl rfl (Nat.le_of_ble_eq_true rfl) d_MO_count_2 (fun H locs hP hD hS => ?_)
  have hP : va_P D vwCl (moW T q n (x 0) (x 1) (mkF (x 2) (x 18 0)) (cdF (x 2) (x 18 0)) (x 3) (x 4) (x 11 0) (x 12 0) (x 13 0) (x 14 0) (x 15 0) (x 16 0) (x 17 0) (x 18 0) (x 19 0) (x 20 0) (x 21 0) (x 22 0) 0 (y 32 0) (y 33 0) (y 34 0) (y 35 0) (y 36 0) (y 37) (y 38) (y 39)) H := hP
  have hD : va_D A (moW T q n (x 0) (x 1) (mkF (x 2) (x 18 0)) (cdF (x 2) (x 18 0)) (x 3) (x 4) (x 11 0) (x 12 0) (x 13 0) (x 14 0) (x 15 0) (x 16 0) (x 17 0) (x 18 0) (x 19 0) (x 20 0) (x 21 0) (x 22 0) 0 (y 32 0) (y 33 0) (y 34 0) (y 35 0) (y 36 0) (y 37) (y 38) (y 39)) := hD
  refine cx_iconst hx hb d_MO_count_5 ?_
  refine lv_istore_n (lv' := [(2, .int (iI (0))), (0, .ref (q 20)), (1, .int (iI (v)))]) hx hb d_MO_count_6 rfl hl (by decide) rfl (fun ls hl => ?_)
  refine cx_iconst hx hb d_MO_count_7 ?_
  refine lv_istore_n (lv' := [(3, .int (iI (0))), (2, .int (iI (0))), (0, .ref (q 20)), (1, .int (iI (v)))]) hx hb d_MO_count_8 rfl hl (by decide) rfl (fun ls hl => ?_)
  have L1 : ∀ (k_ : Nat) (j : Int) (t : Int) (H : Heap) (locs : List Loc) (ls : Array Slot), (0 ≤ j ∧ j ≤ n ∧ n - j < k_) → (t = cnt (x 1) j.toNat) → va_P D vwCl (moW T q n (x 0) (x 1) (mkF (x 2) (x 18 0)) (cdF (x 2) (x 18 0)) (x 3) (x 4) (x 11 0) (x 12 0) (x 13 0) (x 14 0) (x 15 0) (x 16 0) (x 17 0) (x 18 0) (x 19 0) (x 20 0) (x 21 0) (x 22 0) 0 (y 32 0) (y 33 0) (y 34 0) (y 35 0) (y 36 0) (y 37) (y 38) (y 39)) H → va_D A (moW T q n (x 0) (x 1) (mkF (x 2) (x 18 0)) (cdF (x 2) (x 18 0)) (x 3) (x 4) (x 11 0) (x 12 0) (x 13 0) (x 14 0) (x 15 0) (x 16 0) (x 17 0) (x 18 0) (x 19 0) (x 20 0) (x 21 0) (x 22 0) 0 (y 32 0) (y 33 0) (y 34 0) (y 35 0) (y 36 0) (y 37) (y 38) (y 39)) → va_S A s.heap H locs → lv_has ls 4 [(3, .int (iI (j))), (2, .int (iI (t))), (0, .ref (q 20)), (1, .int (iI (v)))] → W p l e (rmK 0) s m ([.ref (q 20), .int (iI (v))] : List Value).toArray below meth cd H locs 0 0 Q (F0 m 9 ls []) := by
    intro k_
    induction k_ with
    | zero => intro j t H locs ls hj hf _ _ _ _; exact absurd hj (by omega)
    | succ k_ ih1 =>
      intro j t H locs ls hj hf hP hD hS hl
      refine lv_iload_n hx hb d_MO_count_9 rfl (lv_at hl 0 rfl) ?_
      refine lv_aload_n hx hb d_MO_count_10 rfl (lv_at hl 2 rfl) ?_
      refine va_get (D := D) (ci := 5) (v := .int (iI ((n : Int)))) (C := R_MO) (T := T_MO) (N := 28) hx hb hT lays_MO hown hK hP 0 rfl rfl 1 (by decide) (hT _ tw_637) (fun _ h9 => h9) rfl d_MO_count_11 ?_
      refine cx_icmp_ge (tgt := 40) hx hb d_MO_count_14 rfl (by omega) (by omega) (fun h14 => ?_) (fun h14 => ?_)
      · rw [show j.toNat = n by omega] at hf
        refine lv_iload_n hx hb d_MO_count_40 rfl (lv_at hl 3 rfl) ?_
        refine cx_if_ne (tgt := 56) hx hb d_MO_count_41 rfl (by omega) (fun h41 => ?_) (fun h41 => ?_)
        · refine lv_iload_n hx hb d_MO_count_56 rfl (lv_at hl 3 rfl) ?_
          refine cx_iconst hx hb d_MO_count_57 ?_
          refine cx_icmp_ne (tgt := 68) hx hb d_MO_count_58 rfl (by omega) (by omega) (fun h58 => ?_) (fun h58 => ?_)
          · refine lv_iload_n hx hb d_MO_count_68 rfl (lv_at hl 3 rfl) ?_
            refine cx_iconst hx hb d_MO_count_69 ?_
            refine cx_icmp_ne (tgt := 80) hx hb d_MO_count_70 rfl (by omega) (by omega) (fun h70 => ?_) (fun h70 => ?_)
            · refine lv_iload_n hx hb d_MO_count_80 rfl (lv_at hl 3 rfl) ?_
              refine cx_iconst hx hb d_MO_count_81 ?_
              refine cx_icmp_ne (tgt := 89) hx hb d_MO_count_82 rfl (by omega) (by omega) (fun h82 => ?_) (fun h82 => ?_)
              · refine cx_iconst hx hb d_MO_count_89 ?_
                exact hret ((x, up y 31 (cst 0)) : SX × SX) (⟨by unfold cntS; repeat (first | rfl | omega | (rw [if_pos (by omega)]) | (rw [if_neg (by omega)]) | (congr 1; omega) | (rw [hf])), by rfl⟩) hP hD hS d_MO_count_90
              · refine lv_iload_n hx hb d_MO_count_85 rfl (lv_at hl 1 rfl) ?_
                refine lv_goto (tgt := 90) hx hb d_MO_count_86 rfl ?_
                exact hret ((x, up y 31 (cst 0)) : SX × SX) (⟨by unfold cntS; repeat (first | rfl | omega | (rw [if_pos (by omega)]) | (rw [if_neg (by omega)]) | (congr 1; omega) | (rw [hf])), by rfl⟩) hP hD hS d_MO_count_90
            · refine lv_aload_n hx hb d_MO_count_73 rfl (lv_at hl 2 rfl) ?_
              refine va_get (D := D) (ci := 5) (v := .int (iI (x 20 0))) (C := R_MO) (T := T_MO) (N := 28) hx hb hT lays_MO hown hK hP 0 rfl rfl 23 (by decide) (hT _ tw_659) (fun _ h9 => h9) rfl d_MO_count_74 ?_
              refine lv_goto (tgt := 90) hx hb d_MO_count_77 rfl ?_
              exact hret ((x, up y 31 (cst 0)) : SX × SX) (⟨by unfold cntS; repeat (first | rfl | omega | (rw [if_pos (by omega)]) | (rw [if_neg (by omega)]) | (congr 1; omega) | (rw [hf])), by rfl⟩) hP hD hS d_MO_count_90
          · refine lv_aload_n hx hb d_MO_count_61 rfl (lv_at hl 2 rfl) ?_
            refine va_get (D := D) (ci := 5) (v := .int (iI (x 19 0))) (C := R_MO) (T := T_MO) (N := 28) hx hb hT lays_MO hown hK hP 0 rfl rfl 21 (by decide) (hT _ tw_657) (fun _ h9 => h9) rfl d_MO_count_62 ?_
            refine lv_goto (tgt := 90) hx hb d_MO_count_65 rfl ?_
            exact hret ((x, up y 31 (cst 0)) : SX × SX) (⟨by unfold cntS; repeat (first | rfl | omega | (rw [if_pos (by omega)]) | (rw [if_neg (by omega)]) | (congr 1; omega) | (rw [hf])), by rfl⟩) hP hD hS d_MO_count_90
        · refine lv_aload_n hx hb d_MO_count_44 rfl (lv_at hl 2 rfl) ?_
          refine va_get (D := D) (ci := 5) (v := .int (iI (x 18 0))) (C := R_MO) (T := T_MO) (N := 28) hx hb hT lays_MO hown hK hP 0 rfl rfl 18 (by decide) (hT _ tw_654) (fun _ h9 => h9) rfl d_MO_count_45 ?_
          refine lv_aload_n hx hb d_MO_count_48 rfl (lv_at hl 2 rfl) ?_
          refine va_get (D := D) (ci := 5) (v := .int (iI (x 17 0))) (C := R_MO) (T := T_MO) (N := 28) hx hb hT lays_MO hown hK hP 0 rfl rfl 19 (by decide) (hT _ tw_655) (fun _ h9 => h9) rfl d_MO_count_49 ?_
          refine cx_isub hx hb d_MO_count_52 ?_
          refine lv_goto (tgt := 90) hx hb d_MO_count_53 rfl ?_
          exact hret ((x, up y 31 (cst 0)) : SX × SX) (⟨by unfold cntS; repeat (first | rfl | omega | (rw [if_pos (by omega)]) | (rw [if_neg (by omega)]) | (congr 1; omega) | (rw [hf])), by rfl⟩) hP hD hS d_MO_count_90
      · refine lv_iload_n hx hb d_MO_count_17 rfl (lv_at hl 1 rfl) ?_
        refine lv_aload_n hx hb d_MO_count_18 rfl (lv_at hl 2 rfl) ?_
        refine va_get (D := D) (ci := 5) (v := .ref (q 22)) (C := R_MO) (T := T_MO) (N := 28) hx hb hT lays_MO hown hK hP 0 rfl rfl 3 (by decide) (hT _ tw_639) (fun _ h9 => h9) rfl d_MO_count_19 ?_
        refine lv_iload_n hx hb d_MO_count_22 rfl (lv_at hl 0 rfl) ?_
        refine cx_zald (g := iF (x 1)) hx hb hK hP 2 2 rfl rfl (by omega) (by omega) d_MO_count_23 ?_
        have hm23 := hC.2 (j)
        refine cx_if_eq (tgt := 31) hx hb d_MO_count_24 rfl (by omega) (fun h24 => ?_) (fun h24 => ?_)
        · refine cx_iconst hx hb d_MO_count_31 ?_
          refine cx_iadd hx hb d_MO_count_32 ?_
          refine lv_istore_n (lv' := [(2, .int (iI (t + 0))), (3, .int (iI (j))), (0, .ref (q 20)), (1, .int (iI (v)))]) hx hb d_MO_count_33 rfl hl (by decide) rfl (fun ls hl => ?_)
          refine cx_iinc (k := 1) (lv' := [(3, .int (iI (j + 1))), (2, .int (iI (t + 0))), (0, .ref (q 20)), (1, .int (iI (v)))]) hx hb d_MO_count_34 hl rfl (by decide) rfl (fun ls hl => ?_)
          refine lv_goto (tgt := 9) hx hb d_MO_count_37 rfl ?_
          exact ih1 (j + 1) (t + 0) _ _ _ (by omega) (by rw [cnt_step (by omega), hf]; congr 1; omega) hP hD hS (lv_sub hl [0, 1, 2, 3] rfl)
        · refine cx_iconst hx hb d_MO_count_27 ?_
          refine lv_goto (tgt := 32) hx hb d_MO_count_28 rfl ?_
          refine cx_iadd hx hb d_MO_count_32 ?_
          refine lv_istore_n (lv' := [(2, .int (iI (t + 1))), (3, .int (iI (j))), (0, .ref (q 20)), (1, .int (iI (v)))]) hx hb d_MO_count_33 rfl hl (by decide) rfl (fun ls hl => ?_)
          refine cx_iinc (k := 1) (lv' := [(3, .int (iI (j + 1))), (2, .int (iI (t + 1))), (0, .ref (q 20)), (1, .int (iI (v)))]) hx hb d_MO_count_34 hl rfl (by decide) rfl (fun ls hl => ?_)
          refine lv_goto (tgt := 9) hx hb d_MO_count_37 rfl ?_
          exact ih1 (j + 1) (t + 1) _ _ _ (by omega) (by rw [cnt_step (by omega), hf]; congr 1; omega) hP hD hS (lv_sub hl [0, 1, 2, 3] rfl)
  exact L1 2001 0 0 _ _ _ (by omega) rfl hP hD hS (lv_sub hl [0, 1, 2, 3] rfl)

set_option maxHeartbeats 4000000 in
set_option maxRecDepth 100000 in
theorem c_MO_card (l : Launch) (D : va_G) (T : Nat → ClassId) (sz : Nat) (q : Nat → Nat) (n : Nat) (hn : 400 ≤ n ∧ n ≤ 2000) (x y : SX) (hX : okX x) : MI l y_MO_card (wY y_MO_card b_MO_card 2 (some .int)) (rmK 0) D vwCl (tyL T) nwL sz [.ref (q 20)] (moW T q n (x 0) (x 1) (mkF (x 2) (x 18 0)) (cdF (x 2) (x 18 0)) (x 3) (x 4) (x 11 0) (x 12 0) (x 13 0) (x 14 0) (x 15 0) (x 16 0) (x 17 0) (x 18 0) (x 19 0) (x 20 0) (x 21 0) (x 22 0) (y 31 0) (y 32 0) (y 33 0) (y 34 0) (y 35 0) (y 36 0) (y 37) (y 38) (y 39)) (fun r (u : SX × SX) => (r = iI (if x 18 0 = 20 then 0 else x 18 0 + 1 - x 17 0) ∧ u = (if x 18 0 = 20 then x else up x 18 (cst (x 18 0 + 1)), up y 31 (cst (if x 18 0 = 20 then 1 else 0)))) ∧ okX u.1) (fun (u : SX × SX) => moX T q n u.1 u.2) := by
  refine cx_inI (by decide) rfl (Nat.le_of_ble_eq_true rfl) ?_
  intro p e s m below meth cd ls A Q hx hb hml hT hown hret hP hK hD hN hS hA hl
  have hown : s.vm.findClass R_MO = some m.cls := hown
  have hl : lv_has ls 2 [(0, .ref (q 20))] := hl
  have hC := hX.1
  have hR0 := hX.2.1
  have hF := hX.2.2
  unfold okR at hR0
  refine lv_aload_n hx hb d_MO_card_0 rfl (lv_at hl 0 rfl) ?_
  refine lv_aload_n hx hb d_MO_card_1 rfl (lv_at hl 0 rfl) ?_
  refine va_get (D := D) (ci := 5) (v := .int (iI (x 18 0))) (C := R_MO) (T := T_MO) (N := 28) hx hb hT lays_MO hown hK hP 0 rfl rfl 18 (by decide) (hT _ tw_654) (fun _ h9 => h9) rfl d_MO_card_2 ?_
  refine cx_bipush hx hb d_MO_card_5 rfl ?_
  refine cx_icmp_ne (tgt := 14) hx hb d_MO_card_7 rfl (by omega) (by omega) (fun h7 => ?_) (fun h7 => ?_)
  · refine cx_iconst hx hb d_MO_card_14 ?_
    refine va_put (D := D) (ci := 5) (v := .int (iI (0))) (ty := .int) (C := R_MO) (T := T_MO) (N := 28) hx hb hT lays_MO t_MO t_MO_ok n_MO hown hK hP hD hS 0 rfl rfl 0 (by decide) (hT _ tw_636) (fun _ h9 => h9) rfl (by decide +kernel) rfl rfl (Nat.le_of_ble_eq_true rfl) d_MO_card_15 (fun H locs hP hD hS => ?_)
    have hP : va_P D vwCl (moW T q n (x 0) (x 1) (mkF (x 2) (x 18 0)) (cdF (x 2) (x 18 0)) (x 3) (x 4) (x 11 0) (x 12 0) (x 13 0) (x 14 0) (x 15 0) (x 16 0) (x 17 0) (x 18 0) (x 19 0) (x 20 0) (x 21 0) (x 22 0) 0 (y 32 0) (y 33 0) (y 34 0) (y 35 0) (y 36 0) (y 37) (y 38) (y 39)) H := hP
    have hD : va_D A (moW T q n (x 0) (x 1) (mkF (x 2) (x 18 0)) (cdF (x 2) (x 18 0)) (x 3) (x 4) (x 11 0) (x 12 0) (x 13 0) (x 14 0) (x 15 0) (x 16 0) (x 17 0) (x 18 0) (x 19 0) (x 20 0) (x 21 0) (x 22 0) 0 (y 32 0) (y 33 0) (y 34 0) (y 35 0) (y 36 0) (y 37) (y 38) (y 39)) := hD
    refine lv_aload_n hx hb d_MO_card_18 rfl (lv_at hl 0 rfl) ?_
    refine va_get (D := D) (ci := 5) (v := .int (iI (0))) (C := R_MO) (T := T_MO) (N := 28) hx hb hT lays_MO hown hK hP 0 rfl rfl 0 (by decide) (hT _ tw_636) (fun _ h9 => h9) rfl d_MO_card_19 ?_
    refine cx_if_le (tgt := 27) hx hb d_MO_card_22 rfl (by omega) (fun _ => ?_) (fun h0 => absurd h0 (by decide))
    refine cx_iconst hx hb d_MO_card_27 ?_
    refine lv_istore_n (lv' := [(1, .int (iI (0))), (0, .ref (q 20))]) hx hb d_MO_card_28 rfl hl (by decide) rfl (fun ls hl => ?_)
    have L1 : ∀ (k_ : Nat) (j : Int) (H : Heap) (locs : List Loc) (ls : Array Slot), (0 ≤ j ∧ j ≤ 80 ∧ 80 - j < k_) → va_P D vwCl (moW T q n (x 0) (x 1) (spa (mkF (x 2) (x 18 0)) 0 (j) (cst 0)) (spa (cdF (x 2) (x 18 0)) (80 * x 18 0) (j) (fun k => x 2 (80 * x 18 0 + k))) (x 3) (x 4) (x 11 0) (x 12 0) (x 13 0) (x 14 0) (x 15 0) (x 16 0) (x 17 0) (x 18 0) (x 19 0) (x 20 0) (x 21 0) (x 22 0) 0 (y 32 0) (y 33 0) (y 34 0) (y 35 0) (y 36 0) (y 37) (y 38) (y 39)) H → va_D A (moW T q n (x 0) (x 1) (spa (mkF (x 2) (x 18 0)) 0 (j) (cst 0)) (spa (cdF (x 2) (x 18 0)) (80 * x 18 0) (j) (fun k => x 2 (80 * x 18 0 + k))) (x 3) (x 4) (x 11 0) (x 12 0) (x 13 0) (x 14 0) (x 15 0) (x 16 0) (x 17 0) (x 18 0) (x 19 0) (x 20 0) (x 21 0) (x 22 0) 0 (y 32 0) (y 33 0) (y 34 0) (y 35 0) (y 36 0) (y 37) (y 38) (y 39)) → va_S A s.heap H locs → lv_has ls 2 [(1, .int (iI (j))), (0, .ref (q 20))] → W p l e (rmK 0) s m ([.ref (q 20)] : List Value).toArray below meth cd H locs 0 0 Q (F0 m 29 ls []) := by
      intro k_
      induction k_ with
      | zero => intro j H locs ls hj _ _ _ _; exact absurd hj (by omega)
      | succ k_ ih1 =>
        intro j H locs ls hj hP hD hS hl
        refine lv_iload_n hx hb d_MO_card_29 rfl (lv_at hl 0 rfl) ?_
        refine cx_bipush hx hb d_MO_card_30 rfl ?_
        refine cx_icmp_ge (tgt := 68) hx hb d_MO_card_32 rfl (by omega) (by omega) (fun h32 => ?_) (fun h32 => ?_)
        · obtain rfl : j = 80 := by omega
          rw [cd_next hF, mk_next hF] at hP hD
          have hF := okF_next hF
          refine lv_aload_n hx hb d_MO_card_68 rfl (lv_at hl 1 rfl) ?_
          refine lv_dup hx hb d_MO_card_69 rfl ?_
          refine va_get (D := D) (ci := 5) (v := .int (iI (x 18 0))) (C := R_MO) (T := T_MO) (N := 28) hx hb hT lays_MO hown hK hP 0 rfl rfl 18 (by decide) (hT _ tw_654) (fun _ h9 => h9) rfl d_MO_card_70 ?_
          refine cx_iconst hx hb d_MO_card_73 ?_
          refine cx_iadd hx hb d_MO_card_74 ?_
          refine va_put (D := D) (ci := 5) (v := .int (iI ((x 18 0) + 1))) (ty := .int) (C := R_MO) (T := T_MO) (N := 28) hx hb hT lays_MO t_MO t_MO_ok n_MO hown hK hP hD hS 0 rfl rfl 18 (by decide) (hT _ tw_654) (fun _ h9 => h9) rfl (by decide +kernel) rfl rfl (Nat.le_of_ble_eq_true rfl) d_MO_card_75 (fun H locs hP hD hS => ?_)
          have hP : va_P D vwCl (moW T q n (x 0) (x 1) (mkF (x 2) (x 18 0 + 1)) (cdF (x 2) (x 18 0 + 1)) (x 3) (x 4) (x 11 0) (x 12 0) (x 13 0) (x 14 0) (x 15 0) (x 16 0) (x 17 0) ((x 18 0) + 1) (x 19 0) (x 20 0) (x 21 0) (x 22 0) 0 (y 32 0) (y 33 0) (y 34 0) (y 35 0) (y 36 0) (y 37) (y 38) (y 39)) H := hP
          have hD : va_D A (moW T q n (x 0) (x 1) (mkF (x 2) (x 18 0 + 1)) (cdF (x 2) (x 18 0 + 1)) (x 3) (x 4) (x 11 0) (x 12 0) (x 13 0) (x 14 0) (x 15 0) (x 16 0) (x 17 0) ((x 18 0) + 1) (x 19 0) (x 20 0) (x 21 0) (x 22 0) 0 (y 32 0) (y 33 0) (y 34 0) (y 35 0) (y 36 0) (y 37) (y 38) (y 39)) := hD
          refine lv_aload_n hx hb d_MO_card_78 rfl (lv_at hl 1 rfl) ?_
          refine va_get (D := D) (ci := 5) (v := .int (iI ((x 18 0) + 1))) (C := R_MO) (T := T_MO) (N := 28) hx hb hT lays_MO hown hK hP 0 rfl rfl 18 (by decide) (hT _ tw_654) (fun _ h9 => h9) rfl d_MO_card_79 ?_
          refine lv_aload_n hx hb d_MO_card_82 rfl (lv_at hl 1 rfl) ?_
          refine va_get (D := D) (ci := 5) (v := .int (iI (x 17 0))) (C := R_MO) (T := T_MO) (N := 28) hx hb hT lays_MO hown hK hP 0 rfl rfl 19 (by decide) (hT _ tw_655) (fun _ h9 => h9) rfl d_MO_card_83 ?_
          refine cx_isub hx hb d_MO_card_86 ?_
          exact hret ((up x 18 (cst ((x 18 0) + 1)), up y 31 (cst 0)) : SX × SX) (⟨⟨by rw [if_neg h7], by rw [if_neg h7, if_neg h7]⟩, (show okX (up x 18 (cst ((x 18 0) + 1))) from ⟨hX.1, (show okR (x 11 0) (x 12 0) (x 13 0) (x 14 0) (x 15 0) (x 16 0) (x 17 0) ((x 18 0) + 1) (x 19 0) (x 20 0) by have h8 := hX.2.1; unfold okR at h8 ⊢; omega), hF⟩)⟩) hP hD hS d_MO_card_87
        · refine lv_aload_n hx hb d_MO_card_35 rfl (lv_at hl 1 rfl) ?_
          refine va_get (D := D) (ci := 5) (v := .ref (q 24)) (C := R_MO) (T := T_MO) (N := 28) hx hb hT lays_MO hown hK hP 0 rfl rfl 20 (by decide) (hT _ tw_656) (fun _ h9 => h9) rfl d_MO_card_36 ?_
          refine cx_bipush hx hb d_MO_card_39 rfl ?_
          refine lv_aload_n hx hb d_MO_card_41 rfl (lv_at hl 1 rfl) ?_
          refine va_get (D := D) (ci := 5) (v := .int (iI (x 18 0))) (C := R_MO) (T := T_MO) (N := 28) hx hb hT lays_MO hown hK hP 0 rfl rfl 18 (by decide) (hT _ tw_654) (fun _ h9 => h9) rfl d_MO_card_42 ?_
          refine cx_imul hx hb d_MO_card_45 ?_
          refine lv_iload_n hx hb d_MO_card_46 rfl (lv_at hl 0 rfl) ?_
          refine cx_iadd hx hb d_MO_card_47 ?_
          refine lv_aload_n hx hb d_MO_card_48 rfl (lv_at hl 1 rfl) ?_
          refine va_get (D := D) (ci := 5) (v := .ref (q 23)) (C := R_MO) (T := T_MO) (N := 28) hx hb hT lays_MO hown hK hP 0 rfl rfl 17 (by decide) (hT _ tw_653) (fun _ h9 => h9) rfl d_MO_card_49 ?_
          refine lv_iload_n hx hb d_MO_card_52 rfl (lv_at hl 0 rfl) ?_
          refine cx_bald (g := iF (spa (mkF (x 2) (x 18 0)) 0 (j) (cst 0))) hx hb hK hP 3 1 rfl rfl (by omega) (by omega) d_MO_card_53 ?_
          have hmk9 : 0 ≤ spa (mkF (x 2) (x 18 0)) 0 (j) (cst 0) (j) ∧ spa (mkF (x 2) (x 18 0)) 0 (j) (cst 0) (j) < 128 := by rw [spa_out (by omega)]; unfold mkF; rw [if_pos (by omega)]; have h9 := hF.1 (80 * x 18 0 + j); omega
          refine cx_bast (g := iF (spa (cdF (x 2) (x 18 0)) (80 * x 18 0) (j) (fun k => x 2 (80 * x 18 0 + k)))) (g' := iF (fu (spa (cdF (x 2) (x 18 0)) (80 * x 18 0) (j) (fun k => x 2 (80 * x 18 0 + k))) ((80 * (x 18 0)) + j) ((spa (mkF (x 2) (x 18 0)) 0 (j) (cst 0)) (j)))) hx hb hK hP hD hS 4 1 rfl rfl (by omega) (by omega) (by omega) (fun j => iF_put j) d_MO_card_54 (fun H locs hP hD hS => ?_)
          have hP : va_P D vwCl (moW T q n (x 0) (x 1) (spa (mkF (x 2) (x 18 0)) 0 (j) (cst 0)) (fu (spa (cdF (x 2) (x 18 0)) (80 * x 18 0) (j) (fun k => x 2 (80 * x 18 0 + k))) ((80 * (x 18 0)) + j) ((spa (mkF (x 2) (x 18 0)) 0 (j) (cst 0)) (j))) (x 3) (x 4) (x 11 0) (x 12 0) (x 13 0) (x 14 0) (x 15 0) (x 16 0) (x 17 0) (x 18 0) (x 19 0) (x 20 0) (x 21 0) (x 22 0) 0 (y 32 0) (y 33 0) (y 34 0) (y 35 0) (y 36 0) (y 37) (y 38) (y 39)) H := hP
          have hD : va_D A (moW T q n (x 0) (x 1) (spa (mkF (x 2) (x 18 0)) 0 (j) (cst 0)) (fu (spa (cdF (x 2) (x 18 0)) (80 * x 18 0) (j) (fun k => x 2 (80 * x 18 0 + k))) ((80 * (x 18 0)) + j) ((spa (mkF (x 2) (x 18 0)) 0 (j) (cst 0)) (j))) (x 3) (x 4) (x 11 0) (x 12 0) (x 13 0) (x 14 0) (x 15 0) (x 16 0) (x 17 0) (x 18 0) (x 19 0) (x 20 0) (x 21 0) (x 22 0) 0 (y 32 0) (y 33 0) (y 34 0) (y 35 0) (y 36 0) (y 37) (y 38) (y 39)) := hD
          refine lv_aload_n hx hb d_MO_card_55 rfl (lv_at hl 1 rfl) ?_
          refine va_get (D := D) (ci := 5) (v := .ref (q 23)) (C := R_MO) (T := T_MO) (N := 28) hx hb hT lays_MO hown hK hP 0 rfl rfl 17 (by decide) (hT _ tw_653) (fun _ h9 => h9) rfl d_MO_card_56 ?_
          refine lv_iload_n hx hb d_MO_card_59 rfl (lv_at hl 0 rfl) ?_
          refine cx_iconst hx hb d_MO_card_60 ?_
          refine cx_bast (g := iF (spa (mkF (x 2) (x 18 0)) 0 (j) (cst 0))) (g' := iF (fu (spa (mkF (x 2) (x 18 0)) 0 (j) (cst 0)) (j) (0))) hx hb hK hP hD hS 3 1 rfl rfl (by omega) (by omega) (by omega) (fun j => iF_put j) d_MO_card_61 (fun H locs hP hD hS => ?_)
          have hP : va_P D vwCl (moW T q n (x 0) (x 1) (fu (spa (mkF (x 2) (x 18 0)) 0 (j) (cst 0)) (j) (0)) (fu (spa (cdF (x 2) (x 18 0)) (80 * x 18 0) (j) (fun k => x 2 (80 * x 18 0 + k))) ((80 * (x 18 0)) + j) ((spa (mkF (x 2) (x 18 0)) 0 (j) (cst 0)) (j))) (x 3) (x 4) (x 11 0) (x 12 0) (x 13 0) (x 14 0) (x 15 0) (x 16 0) (x 17 0) (x 18 0) (x 19 0) (x 20 0) (x 21 0) (x 22 0) 0 (y 32 0) (y 33 0) (y 34 0) (y 35 0) (y 36 0) (y 37) (y 38) (y 39)) H := hP
          have hD : va_D A (moW T q n (x 0) (x 1) (fu (spa (mkF (x 2) (x 18 0)) 0 (j) (cst 0)) (j) (0)) (fu (spa (cdF (x 2) (x 18 0)) (80 * x 18 0) (j) (fun k => x 2 (80 * x 18 0 + k))) ((80 * (x 18 0)) + j) ((spa (mkF (x 2) (x 18 0)) 0 (j) (cst 0)) (j))) (x 3) (x 4) (x 11 0) (x 12 0) (x 13 0) (x 14 0) (x 15 0) (x 16 0) (x 17 0) (x 18 0) (x 19 0) (x 20 0) (x 21 0) (x 22 0) 0 (y 32 0) (y 33 0) (y 34 0) (y 35 0) (y 36 0) (y 37) (y 38) (y 39)) := hD
          refine cx_iinc (k := 0) (lv' := [(1, .int (iI (j + 1))), (0, .ref (q 20))]) hx hb d_MO_card_62 hl rfl (by decide) rfl (fun ls hl => ?_)
          refine lv_goto (tgt := 29) hx hb d_MO_card_65 rfl ?_
          rw [spa_step (F := fun k => x 2 (80 * x 18 0 + k)) (k2 := j + 1) (by omega) rfl rfl (by rw [spa_out (by omega)]; unfold mkF; rw [if_pos (by omega)]), spa_step (F := cst 0) (k2 := j + 1) (by omega) (by omega) rfl rfl] at hP hD
          exact ih1 (j + 1) _ _ _ (by omega) hP hD hS (lv_sub hl [0, 1] rfl)
    rw [← spa_0 (mkF (x 2) (x 18 0)) 0 (cst 0), ← spa_0 (cdF (x 2) (x 18 0)) (80 * x 18 0) (fun k => x 2 (80 * x 18 0 + k))] at hP hD
    exact L1 200 0 _ _ _ (by omega) hP hD hS (lv_sub hl [0, 1] rfl)
  · refine cx_iconst hx hb d_MO_card_10 ?_
    refine lv_goto (tgt := 15) hx hb d_MO_card_11 rfl ?_
    refine va_put (D := D) (ci := 5) (v := .int (iI (1))) (ty := .int) (C := R_MO) (T := T_MO) (N := 28) hx hb hT lays_MO t_MO t_MO_ok n_MO hown hK hP hD hS 0 rfl rfl 0 (by decide) (hT _ tw_636) (fun _ h9 => h9) rfl (by decide +kernel) rfl rfl (Nat.le_of_ble_eq_true rfl) d_MO_card_15 (fun H locs hP hD hS => ?_)
    have hP : va_P D vwCl (moW T q n (x 0) (x 1) (mkF (x 2) (x 18 0)) (cdF (x 2) (x 18 0)) (x 3) (x 4) (x 11 0) (x 12 0) (x 13 0) (x 14 0) (x 15 0) (x 16 0) (x 17 0) (x 18 0) (x 19 0) (x 20 0) (x 21 0) (x 22 0) 1 (y 32 0) (y 33 0) (y 34 0) (y 35 0) (y 36 0) (y 37) (y 38) (y 39)) H := hP
    have hD : va_D A (moW T q n (x 0) (x 1) (mkF (x 2) (x 18 0)) (cdF (x 2) (x 18 0)) (x 3) (x 4) (x 11 0) (x 12 0) (x 13 0) (x 14 0) (x 15 0) (x 16 0) (x 17 0) (x 18 0) (x 19 0) (x 20 0) (x 21 0) (x 22 0) 1 (y 32 0) (y 33 0) (y 34 0) (y 35 0) (y 36 0) (y 37) (y 38) (y 39)) := hD
    refine lv_aload_n hx hb d_MO_card_18 rfl (lv_at hl 0 rfl) ?_
    refine va_get (D := D) (ci := 5) (v := .int (iI (1))) (C := R_MO) (T := T_MO) (N := 28) hx hb hT lays_MO hown hK hP 0 rfl rfl 0 (by decide) (hT _ tw_636) (fun _ h9 => h9) rfl d_MO_card_19 ?_
    refine cx_if_le (tgt := 27) hx hb d_MO_card_22 rfl (by omega) (fun h0 => absurd h0 (by decide)) (fun _ => ?_)
    refine cx_iconst hx hb d_MO_card_25 ?_
    exact hret ((x, up y 31 (cst 1)) : SX × SX) (⟨⟨by rw [if_pos h7], by rw [if_pos h7, if_pos h7]⟩, hX⟩) hP hD hS d_MO_card_26
