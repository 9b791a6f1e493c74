/-! the reference: put -/
def putX (z : Int) (w : Int64) (mm : Int) (x : SX) : SX := up (up x 0 (spa (x 0) z (pcn w 9 0) (fun i => bty w i))) 1 (spa (x 1) z (pcn w 9 0) (fun i => if mkb mm i = 1 then 1 else 0))

set_option maxHeartbeats 4000000 in
set_option maxRecDepth 100000 in
theorem c_MO_put (l : Launch) (D : va_G) (T : Nat → ClassId) (sz : Nat) (q : Nat → Nat) (n : Nat) (hn : 400 ≤ n ∧ n ≤ 2000) (x y : SX) (hX : okX x) (z : Int) (hz : -2147483648 ≤ z ∧ z < 2147483648) (w : Int64) (mm : Int) : MI l y_MO_put (wY y_MO_put b_MO_put 7 (some .int)) (rmK 1) D vwCl (tyL T) nwL sz [.ref (q 20), .int (iI (z)), .long (w), .int (iI (mm))] (moW T q n (x 0) (x 1) (mkF (x 2) (x 18 0)) (cdF (x 2) (x 18 0)) (x 3) (x 4) (x 11 0) (x 12 0) (x 13 0) (x 14 0) (x 15 0) (x 16 0) (x 17 0) (x 18 0) (x 19 0) (x 20 0) (x 21 0) (x 22 0) (y 31 0) (y 32 0) (y 33 0) (y 34 0) (y 35 0) (y 36 0) (y 37) (y 38) (y 39)) (fun r (u : SX × SX) => r = iI (if 0 < pcn w 9 0 ∧ ¬ (0 ≤ z ∧ z + pcn w 9 0 ≤ n) then 0 else pcn w 9 0) ∧ u = (if 0 < pcn w 9 0 ∧ ¬ (0 ≤ z ∧ z + pcn w 9 0 ≤ n) then x else putX z w mm x, up y 31 (cst (if 0 < pcn w 9 0 ∧ ¬ (0 ≤ z ∧ z + pcn w 9 0 ≤ n) then 1 else 0))) ∧ okX u.1) (fun (u : SX × SX) => moX T q n u.1 u.2) := by
  refine cx_inI (by decide) rfl (Nat.le_of_ble_eq_true rfl) ?_
  intro p e s m below meth cd ls A Q hx hb hml hT hown hret hP hK hD hN hS hA hl
  have hown : s.vm.findClass R_MO = some m.cls := hown
  have hl : lv_has ls 7 [(0, .ref (q 20)), (1, .int (iI (z))), (2, .long (w)), (4, .int (iI (mm)))] := hl
  have hC := hX.1
  have hR0 := hX.2.1
  have hF := hX.2.2
  unfold okR at hR0
  refine cx_iconst hx hb d_MO_put_0 ?_
  refine lv_istore (lv' := [(5, .int (iI (0))), (0, .ref (q 20)), (1, .int (iI (z))), (2, .long (w)), (4, .int (iI (mm)))]) hx hb d_MO_put_1 hl (by decide) rfl (fun ls hl => ?_)
  have L1 : ∀ (k_ : Nat) (j : Int) (H : Heap) (locs : List Loc) (ls : Array Slot), (0 ≤ j ∧ j ≤ 8 ∧ j + k_ = 9) → (pcn w 9 0 = pcn w k_ j) → va_P D vwCl (moW T q n (x 0) (x 1) (mkF (x 2) (x 18 0)) (cdF (x 2) (x 18 0)) (x 3) (x 4) (x 11 0) (x 12 0) (x 13 0) (x 14 0) (x 15 0) (x 16 0) (x 17 0) (x 18 0) (x 19 0) (x 20 0) (x 21 0) (x 22 0) (y 31 0) (y 32 0) (y 33 0) (y 34 0) (y 35 0) (y 36 0) (y 37) (y 38) (y 39)) H → va_D A (moW T q n (x 0) (x 1) (mkF (x 2) (x 18 0)) (cdF (x 2) (x 18 0)) (x 3) (x 4) (x 11 0) (x 12 0) (x 13 0) (x 14 0) (x 15 0) (x 16 0) (x 17 0) (x 18 0) (x 19 0) (x 20 0) (x 21 0) (x 22 0) (y 31 0) (y 32 0) (y 33 0) (y 34 0) (y 35 0) (y 36 0) (y 37) (y 38) (y 39)) → va_S A s.heap H locs → lv_has ls 7 [(5, .int (iI (j))), (0, .ref (q 20)), (1, .int (iI (z))), (2, .long (w)), (4, .int (iI (mm)))] → W p l e (rmK 1) s m ([.ref (q 20), .int (iI (z)), .long (w), .int (iI (mm))] : List Value).toArray below meth cd H locs 0 0 Q (F0 m 3 ls []) := by
    intro k_
    induction k_ with
    | zero => intro j H locs ls hj hf _ _ _ _; exact absurd hj (by omega)
    | succ k_ ih1 =>
      intro j H locs ls hj hf hP hD hS hl
      refine lv_iload hx hb d_MO_put_3 (lv_at hl 0 rfl) ?_
      refine cx_bipush hx hb d_MO_put_5 rfl ?_
      refine cx_icmp_ge (tgt := 37) hx hb d_MO_put_7 rfl (by omega) (by omega) (fun h7 => ?_) (fun h7 => ?_)
      · have hL : pcn w 9 0 = j := by rw [hf, pcn, if_neg (by omega)]
        have hb9 : ∀ i, 0 ≤ i → i < j → bty w i < 64 := by have h9 := (pcn_in w 9 0 (by omega) (by omega) (by omega)).2.2; rw [hL] at h9; exact h9
        refine lv_aload_n hx hb d_MO_put_37 rfl (lv_at hl 1 rfl) ?_
        refine lv_iload hx hb d_MO_put_38 (lv_at hl 0 rfl) ?_
        refine cx_if_le (tgt := 66) hx hb d_MO_put_40 rfl (by omega) (fun h40 => ?_) (fun h40 => ?_)
        · refine cx_iconst hx hb d_MO_put_66 ?_
          refine va_put (D := D) (ci := 5) (v := .int (iI (0))) (ty := .int) (C := R_MO) (T := T_MO) (N := 28) hx hb hT lays_MO t_MO t_MO_ok n_MO hown hK hP hD hS 0 rfl rfl 0 (by decide) (hT _ tw_636) (fun _ h9 => h9) rfl (by decide +kernel) rfl rfl (Nat.le_of_ble_eq_true rfl) d_MO_put_67 (fun H locs hP hD hS => ?_)
          have hP : va_P D vwCl (moW T q n (x 0) (x 1) (mkF (x 2) (x 18 0)) (cdF (x 2) (x 18 0)) (x 3) (x 4) (x 11 0) (x 12 0) (x 13 0) (x 14 0) (x 15 0) (x 16 0) (x 17 0) (x 18 0) (x 19 0) (x 20 0) (x 21 0) (x 22 0) 0 (y 32 0) (y 33 0) (y 34 0) (y 35 0) (y 36 0) (y 37) (y 38) (y 39)) H := hP
          have hD : va_D A (moW T q n (x 0) (x 1) (mkF (x 2) (x 18 0)) (cdF (x 2) (x 18 0)) (x 3) (x 4) (x 11 0) (x 12 0) (x 13 0) (x 14 0) (x 15 0) (x 16 0) (x 17 0) (x 18 0) (x 19 0) (x 20 0) (x 21 0) (x 22 0) 0 (y 32 0) (y 33 0) (y 34 0) (y 35 0) (y 36 0) (y 37) (y 38) (y 39)) := hD
          refine cx_iconst hx hb d_MO_put_70 ?_
          refine lv_istore (lv' := [(6, .int (iI (0))), (5, .int (iI (j))), (0, .ref (q 20)), (1, .int (iI (z))), (2, .long (w)), (4, .int (iI (mm)))]) hx hb d_MO_put_71 hl (by decide) rfl (fun ls hl => ?_)
          have L2 : ∀ (k_ : Nat) (i : Int) (H : Heap) (locs : List Loc) (ls : Array Slot), (0 ≤ i ∧ i ≤ j ∧ j - i < k_) → (okC (spa (x 0) z (i) (fun i => bty w i)) (spa (x 1) z (i) (fun i => if mkb mm i = 1 then 1 else 0))) → va_P D vwCl (moW T q n (spa (x 0) z (i) (fun i => bty w i)) (spa (x 1) z (i) (fun i => if mkb mm i = 1 then 1 else 0)) (mkF (x 2) (x 18 0)) (cdF (x 2) (x 18 0)) (x 3) (x 4) (x 11 0) (x 12 0) (x 13 0) (x 14 0) (x 15 0) (x 16 0) (x 17 0) (x 18 0) (x 19 0) (x 20 0) (x 21 0) (x 22 0) 0 (y 32 0) (y 33 0) (y 34 0) (y 35 0) (y 36 0) (y 37) (y 38) (y 39)) H → va_D A (moW T q n (spa (x 0) z (i) (fun i => bty w i)) (spa (x 1) z (i) (fun i => if mkb mm i = 1 then 1 else 0)) (mkF (x 2) (x 18 0)) (cdF (x 2) (x 18 0)) (x 3) (x 4) (x 11 0) (x 12 0) (x 13 0) (x 14 0) (x 15 0) (x 16 0) (x 17 0) (x 18 0) (x 19 0) (x 20 0) (x 21 0) (x 22 0) 0 (y 32 0) (y 33 0) (y 34 0) (y 35 0) (y 36 0) (y 37) (y 38) (y 39)) → va_S A s.heap H locs → lv_has ls 7 [(6, .int (iI (i))), (5, .int (iI (j))), (0, .ref (q 20)), (1, .int (iI (z))), (2, .long (w)), (4, .int (iI (mm)))] → W p l e (rmK 1) s m ([.ref (q 20), .int (iI (z)), .long (w), .int (iI (mm))] : List Value).toArray below meth cd H locs 0 0 Q (F0 m 73 ls []) := by
            intro k_
            induction k_ with
            | zero => intro i H locs ls hi hC _ _ _ _; exact absurd hi (by omega)
            | succ k_ ih2 =>
              intro i H locs ls hi hC hP hD hS hl
              refine lv_iload hx hb d_MO_put_73 (lv_at hl 0 rfl) ?_
              refine lv_iload hx hb d_MO_put_75 (lv_at hl 1 rfl) ?_
              refine cx_icmp_ge (tgt := 143) hx hb d_MO_put_77 rfl (by omega) (by omega) (fun h77 => ?_) (fun h77 => ?_)
              · obtain rfl : j = i := by omega
                refine lv_aload_n hx hb d_MO_put_143 rfl (lv_at hl 2 rfl) ?_
                refine va_get (D := D) (ci := 5) (v := .int (iI (0))) (C := R_MO) (T := T_MO) (N := 28) hx hb hT lays_MO hown hK hP 0 rfl rfl 0 (by decide) (hT _ tw_636) (fun _ h9 => h9) rfl d_MO_put_144 ?_
                refine cx_if_le (tgt := 154) hx hb d_MO_put_147 rfl (by omega) (fun _ => ?_) (fun h0 => absurd h0 (by decide))
                refine lv_iload hx hb d_MO_put_154 (lv_at hl 1 rfl) ?_
                exact hret ((up (up x 0 (spa (x 0) z (j) (fun i => bty w i))) 1 (spa (x 1) z (j) (fun i => if mkb mm i = 1 then 1 else 0)), up y 31 (cst 0)) : SX × SX) (⟨by rw [if_neg (by omega), hL], by rw [if_neg (by omega), if_neg (by omega)]; unfold putX; rw [hL], (show okX (up (up x 0 (spa (x 0) z (j) (fun i => bty w i))) 1 (spa (x 1) z (j) (fun i => if mkb mm i = 1 then 1 else 0))) from ⟨hC, (show okR (x 11 0) (x 12 0) (x 13 0) (x 14 0) (x 15 0) (x 16 0) (x 17 0) (x 18 0) (x 19 0) (x 20 0) by have h8 := hX.2.1; unfold okR at h8 ⊢; omega), hX.2.2⟩)⟩) hP hD hS d_MO_put_156
              · refine lv_aload_n hx hb d_MO_put_80 rfl (lv_at hl 2 rfl) ?_
                refine va_get (D := D) (ci := 5) (v := .int (iI (0))) (C := R_MO) (T := T_MO) (N := 28) hx hb hT lays_MO hown hK hP 0 rfl rfl 0 (by decide) (hT _ tw_636) (fun _ h9 => h9) rfl d_MO_put_81 ?_
                refine cx_if_ne (tgt := 143) hx hb d_MO_put_84 rfl (by omega) (fun h0 => absurd h0 (by decide)) (fun _ => ?_)
                refine lv_aload_n hx hb d_MO_put_87 rfl (lv_at hl 2 rfl) ?_
                refine va_get (D := D) (ci := 5) (v := .ref (q 21)) (C := R_MO) (T := T_MO) (N := 28) hx hb hT lays_MO hown hK hP 0 rfl rfl 2 (by decide) (hT _ tw_638) (fun _ h9 => h9) rfl d_MO_put_88 ?_
                refine lv_iload_n hx hb d_MO_put_91 rfl (lv_at hl 3 rfl) ?_
                refine lv_iload hx hb d_MO_put_92 (lv_at hl 0 rfl) ?_
                refine cx_iadd hx hb d_MO_put_94 ?_
                refine lv_lload_n hx hb d_MO_put_95 rfl (lv_at hl 4 rfl) ?_
                refine cx_bipush hx hb d_MO_put_96 rfl ?_
                refine cx_bipush hx hb d_MO_put_98 rfl ?_
                refine lv_iload hx hb d_MO_put_100 (lv_at hl 0 rfl) ?_
                refine cx_imul hx hb d_MO_put_102 ?_
                refine cx_isub hx hb d_MO_put_103 ?_
                refine lv_lshr (v := w >>> ((iI (56 - 8 * i)).toInt64 &&& 63)) hx hb d_MO_put_104 rfl ?_
                refine lv_ldc2 (v := 63) hx hb hown (hT _ tw_744) d_MO_put_105 ?_
                refine lv_land hx hb d_MO_put_108 ?_
                have hb8 := bty_in w i
                have hb7 := hb9 i (by omega) (by omega)
                refine lv_l2i (v := iI (bty w i % 64)) hx hb d_MO_put_109 (sh_S63 w (by omega)) ?_
                refine cx_eq (show iI (bty w i % 64) = iI (bty w i) from by rw [Int.emod_eq_of_lt (by omega) (by omega)]) ?_
                refine lv_i2b (v := iI (bty w i)) hx hb d_MO_put_110 (i2b_ok (by omega)) ?_
                refine cx_bast (g := iF (spa (x 0) z (i) (fun i => bty w i))) (g' := iF (fu (spa (x 0) z (i) (fun i => bty w i)) (z + i) (bty w i))) hx hb hK hP hD hS 1 1 rfl rfl (by omega) (by omega) (by omega) (fun j => iF_put j) d_MO_put_111 (fun H locs hP hD hS => ?_)
                have hP : va_P D vwCl (moW T q n (fu (spa (x 0) z (i) (fun i => bty w i)) (z + i) (bty w i)) (spa (x 1) z (i) (fun i => if mkb mm i = 1 then 1 else 0)) (mkF (x 2) (x 18 0)) (cdF (x 2) (x 18 0)) (x 3) (x 4) (x 11 0) (x 12 0) (x 13 0) (x 14 0) (x 15 0) (x 16 0) (x 17 0) (x 18 0) (x 19 0) (x 20 0) (x 21 0) (x 22 0) 0 (y 32 0) (y 33 0) (y 34 0) (y 35 0) (y 36 0) (y 37) (y 38) (y 39)) H := hP
                have hD : va_D A (moW T q n (fu (spa (x 0) z (i) (fun i => bty w i)) (z + i) (bty w i)) (spa (x 1) z (i) (fun i => if mkb mm i = 1 then 1 else 0)) (mkF (x 2) (x 18 0)) (cdF (x 2) (x 18 0)) (x 3) (x 4) (x 11 0) (x 12 0) (x 13 0) (x 14 0) (x 15 0) (x 16 0) (x 17 0) (x 18 0) (x 19 0) (x 20 0) (x 21 0) (x 22 0) 0 (y 32 0) (y 33 0) (y 34 0) (y 35 0) (y 36 0) (y 37) (y 38) (y 39)) := hD
                have hC : okC (fu (spa (x 0) z (i) (fun i => bty w i)) (z + i) (bty w i)) (spa (x 1) z (i) (fun i => if mkb mm i = 1 then 1 else 0)) := okC_fu hC (by omega)
                refine lv_aload_n hx hb d_MO_put_112 rfl (lv_at hl 2 rfl) ?_
                refine va_get (D := D) (ci := 5) (v := .ref (q 22)) (C := R_MO) (T := T_MO) (N := 28) hx hb hT lays_MO hown hK hP 0 rfl rfl 3 (by decide) (hT _ tw_639) (fun _ h9 => h9) rfl d_MO_put_113 ?_
                refine lv_iload_n hx hb d_MO_put_116 rfl (lv_at hl 3 rfl) ?_
                refine lv_iload hx hb d_MO_put_117 (lv_at hl 0 rfl) ?_
                refine cx_iadd hx hb d_MO_put_119 ?_
                refine lv_iload hx hb d_MO_put_120 (lv_at hl 5 rfl) ?_
                refine lv_iload hx hb d_MO_put_122 (lv_at hl 0 rfl) ?_
                refine lv_ishr hx hb d_MO_put_124 ?_
                refine cx_eq (shI_e mm i) ?_
                refine cx_iconst hx hb d_MO_put_125 ?_
                refine lv_iand hx hb d_MO_put_126 ?_
                refine cx_eq (mkb_e mm i) ?_
                have hmb := mkb_in mm i
                refine cx_iconst hx hb d_MO_put_127 ?_
                refine cx_icmp_ne (tgt := 135) hx hb d_MO_put_128 rfl (by omega) (by omega) (fun h128 => ?_) (fun h128 => ?_)
                · refine cx_iconst hx hb d_MO_put_135 ?_
                  refine cx_zast (g := iF (spa (x 1) z (i) (fun i => if mkb mm i = 1 then 1 else 0))) (g' := iF (fu (spa (x 1) z (i) (fun i => if mkb mm i = 1 then 1 else 0)) (z + i) (0))) hx hb hK hP hD hS 2 2 rfl rfl (by omega) (by omega) (by omega) (fun j => iF_put j) d_MO_put_136 (fun H locs hP hD hS => ?_)
                  have hP : va_P D vwCl (moW T q n (fu (spa (x 0) z (i) (fun i => bty w i)) (z + i) (bty w i)) (fu (spa (x 1) z (i) (fun i => if mkb mm i = 1 then 1 else 0)) (z + i) (0)) (mkF (x 2) (x 18 0)) (cdF (x 2) (x 18 0)) (x 3) (x 4) (x 11 0) (x 12 0) (x 13 0) (x 14 0) (x 15 0) (x 16 0) (x 17 0) (x 18 0) (x 19 0) (x 20 0) (x 21 0) (x 22 0) 0 (y 32 0) (y 33 0) (y 34 0) (y 35 0) (y 36 0) (y 37) (y 38) (y 39)) H := hP
                  have hD : va_D A (moW T q n (fu (spa (x 0) z (i) (fun i => bty w i)) (z + i) (bty w i)) (fu (spa (x 1) z (i) (fun i => if mkb mm i = 1 then 1 else 0)) (z + i) (0)) (mkF (x 2) (x 18 0)) (cdF (x 2) (x 18 0)) (x 3) (x 4) (x 11 0) (x 12 0) (x 13 0) (x 14 0) (x 15 0) (x 16 0) (x 17 0) (x 18 0) (x 19 0) (x 20 0) (x 21 0) (x 22 0) 0 (y 32 0) (y 33 0) (y 34 0) (y 35 0) (y 36 0) (y 37) (y 38) (y 39)) := hD
                  have hC : okC (fu (spa (x 0) z (i) (fun i => bty w i)) (z + i) (bty w i)) (fu (spa (x 1) z (i) (fun i => if mkb mm i = 1 then 1 else 0)) (z + i) (0)) := okC_mk hC (by omega)
                  refine cx_iinc (k := 0) (lv' := [(6, .int (iI (i + 1))), (5, .int (iI (j))), (0, .ref (q 20)), (1, .int (iI (z))), (2, .long (w)), (4, .int (iI (mm)))]) hx hb d_MO_put_137 hl rfl (by decide) rfl (fun ls hl => ?_)
                  refine lv_goto (tgt := 73) hx hb d_MO_put_140 rfl ?_
                  rw [spa_step (F := (fun i => bty w i)) (k2 := i + 1) (by omega) rfl rfl rfl, spa_step (F := (fun i => if mkb mm i = 1 then 1 else 0)) (k2 := i + 1) (by omega) rfl rfl (by show (if mkb mm i = 1 then (1 : Int) else 0) = _; rw [if_neg (by omega)])] at hP hD hC
                  exact ih2 (i + 1) _ _ _ (by omega) hC hP hD hS (lv_sub hl [0, 1, 2, 3, 4, 5] rfl)
                · refine cx_iconst hx hb d_MO_put_131 ?_
                  refine lv_goto (tgt := 136) hx hb d_MO_put_132 rfl ?_
                  refine cx_zast (g := iF (spa (x 1) z (i) (fun i => if mkb mm i = 1 then 1 else 0))) (g' := iF (fu (spa (x 1) z (i) (fun i => if mkb mm i = 1 then 1 else 0)) (z + i) (1))) hx hb hK hP hD hS 2 2 rfl rfl (by omega) (by omega) (by omega) (fun j => iF_put j) d_MO_put_136 (fun H locs hP hD hS => ?_)
                  have hP : va_P D vwCl (moW T q n (fu (spa (x 0) z (i) (fun i => bty w i)) (z + i) (bty w i)) (fu (spa (x 1) z (i) (fun i => if mkb mm i = 1 then 1 else 0)) (z + i) (1)) (mkF (x 2) (x 18 0)) (cdF (x 2) (x 18 0)) (x 3) (x 4) (x 11 0) (x 12 0) (x 13 0) (x 14 0) (x 15 0) (x 16 0) (x 17 0) (x 18 0) (x 19 0) (x 20 0) (x 21 0) (x 22 0) 0 (y 32 0) (y 33 0) (y 34 0) (y 35 0) (y 36 0) (y 37) (y 38) (y 39)) H := hP
                  have hD : va_D A (moW T q n (fu (spa (x 0) z (i) (fun i => bty w i)) (z + i) (bty w i)) (fu (spa (x 1) z (i) (fun i => if mkb mm i = 1 then 1 else 0)) (z + i) (1)) (mkF (x 2) (x 18 0)) (cdF (x 2) (x 18 0)) (x 3) (x 4) (x 11 0) (x 12 0) (x 13 0) (x 14 0) (x 15 0) (x 16 0) (x 17 0) (x 18 0) (x 19 0) (x 20 0) (x 21 0) (x 22 0) 0 (y 32 0) (y 33 0) (y 34 0) (y 35 0) (y 36 0) (y 37) (y 38) (y 39)) := hD
                  have hC : okC (fu (spa (x 0) z (i) (fun i => bty w i)) (z + i) (bty w i)) (fu (spa (x 1) z (i) (fun i => if mkb mm i = 1 then 1 else 0)) (z + i) (1)) := okC_mk hC (by omega)
                  refine cx_iinc (k := 0) (lv' := [(6, .int (iI (i + 1))), (5, .int (iI (j))), (0, .ref (q 20)), (1, .int (iI (z))), (2, .long (w)), (4, .int (iI (mm)))]) hx hb d_MO_put_137 hl rfl (by decide) rfl (fun ls hl => ?_)
                  refine lv_goto (tgt := 73) hx hb d_MO_put_140 rfl ?_
                  rw [spa_step (F := (fun i => bty w i)) (k2 := i + 1) (by omega) rfl rfl rfl, spa_step (F := (fun i => if mkb mm i = 1 then 1 else 0)) (k2 := i + 1) (by omega) rfl rfl (by show (if mkb mm i = 1 then (1 : Int) else 0) = _; rw [if_pos (by omega)])] at hP hD hC
                  exact ih2 (i + 1) _ _ _ (by omega) hC hP hD hS (lv_sub hl [0, 1, 2, 3, 4, 5] rfl)
          rw [← spa_0 (x 0) z (fun i => bty w i), ← spa_0 (x 1) z (fun i => if mkb mm i = 1 then 1 else 0)] at hP hD
          exact L2 10 0 _ _ _ (by omega) (by rw [spa_0, spa_0]; exact hC) hP hD hS (lv_sub hl [0, 1, 2, 3, 4, 5] rfl)
        · refine lv_aload_n hx hb d_MO_put_43 rfl (lv_at hl 1 rfl) ?_
          refine lv_iload_n hx hb d_MO_put_44 rfl (lv_at hl 2 rfl) ?_
          refine cx_cI (ws2 := fun _ => moW T q n (x 0) (x 1) (mkF (x 2) (x 18 0)) (cdF (x 2) (x 18 0)) (x 3) (x 4) (x 11 0) (x 12 0) (x 13 0) (x 14 0) (x 15 0) (x 16 0) (x 17 0) (x 18 0) (x 19 0) (x 20 0) (x 21 0) (x 22 0) (y 31 0) (y 32 0) (y 33 0) (y 34 0) (y 35 0) (y 36 0) (y 37) (y 38) (y 39)) (cx_rV (q0 := 0) (ci := 5) (rest := [.ref (q 20)]) (As := [.int (iI (z))]) hx hb hml hown hT hK hN hP hD hl.1 tw_731 k_MO_is (c_MO_is l D T H.size q n hn x y hX z (by omega)) ⟨by decide, by decide⟩ ⟨rfl, rfl⟩ [0, 1, 2, 3, 4, 5, 6, 7, 8, 9] (by decide) rfl rfl rfl rfl rfl (Nat.le_of_ble_eq_true rfl) ⟨Nat.zero_le _, Nat.zero_le _⟩ d_MO_put_45) hP hD hS hA [0, 1, 2, 3, 4, 5, 6, 7, 8, 9] [] [0, 1, 2, 3, 4, 5, 6, 7, 8, 9] rfl (wr := []) rfl (by decide) (by decide) (fun _ => rfl) (by decide) (fun r u_ H locs hq45 hP hD hS => ?_)
          rcases hq45 with ⟨rfl, h45⟩ | ⟨rfl, h45⟩
          · refine cx_if_eq (tgt := 62) hx hb d_MO_put_48 rfl (by omega) (fun h0 => absurd h0 (by decide)) (fun _ => ?_)
            refine lv_iload_n hx hb d_MO_put_51 rfl (lv_at hl 2 rfl) ?_
            refine lv_iload hx hb d_MO_put_52 (lv_at hl 0 rfl) ?_
            refine cx_iadd hx hb d_MO_put_54 ?_
            refine lv_aload_n hx hb d_MO_put_55 rfl (lv_at hl 1 rfl) ?_
            refine va_get (D := D) (ci := 5) (v := .int (iI ((n : Int)))) (C := R_MO) (T := T_MO) (N := 28) hx hb hT lays_MO hown hK hP 0 rfl rfl 1 (by decide) (hT _ tw_637) (fun _ h9 => h9) rfl d_MO_put_56 ?_
            refine cx_icmp_le (tgt := 66) hx hb d_MO_put_59 rfl (by omega) (by omega) (fun h59 => ?_) (fun h59 => ?_)
            · refine cx_iconst hx hb d_MO_put_66 ?_
              refine va_put (D := D) (ci := 5) (v := .int (iI (0))) (ty := .int) (C := R_MO) (T := T_MO) (N := 28) hx hb hT lays_MO t_MO t_MO_ok n_MO hown hK hP hD hS 0 rfl rfl 0 (by decide) (hT _ tw_636) (fun _ h9 => h9) rfl (by decide +kernel) rfl rfl (Nat.le_of_ble_eq_true rfl) d_MO_put_67 (fun H locs hP hD hS => ?_)
              have hP : va_P D vwCl (moW T q n (x 0) (x 1) (mkF (x 2) (x 18 0)) (cdF (x 2) (x 18 0)) (x 3) (x 4) (x 11 0) (x 12 0) (x 13 0) (x 14 0) (x 15 0) (x 16 0) (x 17 0) (x 18 0) (x 19 0) (x 20 0) (x 21 0) (x 22 0) 0 (y 32 0) (y 33 0) (y 34 0) (y 35 0) (y 36 0) (y 37) (y 38) (y 39)) H := hP
              have hD : va_D A (moW T q n (x 0) (x 1) (mkF (x 2) (x 18 0)) (cdF (x 2) (x 18 0)) (x 3) (x 4) (x 11 0) (x 12 0) (x 13 0) (x 14 0) (x 15 0) (x 16 0) (x 17 0) (x 18 0) (x 19 0) (x 20 0) (x 21 0) (x 22 0) 0 (y 32 0) (y 33 0) (y 34 0) (y 35 0) (y 36 0) (y 37) (y 38) (y 39)) := hD
              refine cx_iconst hx hb d_MO_put_70 ?_
              refine lv_istore (lv' := [(6, .int (iI (0))), (5, .int (iI (j))), (0, .ref (q 20)), (1, .int (iI (z))), (2, .long (w)), (4, .int (iI (mm)))]) hx hb d_MO_put_71 hl (by decide) rfl (fun ls hl => ?_)
              have L2 : ∀ (k_ : Nat) (i : Int) (H : Heap) (locs : List Loc) (ls : Array Slot), (0 ≤ i ∧ i ≤ j ∧ j - i < k_) → (okC (spa (x 0) z (i) (fun i => bty w i)) (spa (x 1) z (i) (fun i => if mkb mm i = 1 then 1 else 0))) → va_P D vwCl (moW T q n (spa (x 0) z (i) (fun i => bty w i)) (spa (x 1) z (i) (fun i => if mkb mm i = 1 then 1 else 0)) (mkF (x 2) (x 18 0)) (cdF (x 2) (x 18 0)) (x 3) (x 4) (x 11 0) (x 12 0) (x 13 0) (x 14 0) (x 15 0) (x 16 0) (x 17 0) (x 18 0) (x 19 0) (x 20 0) (x 21 0) (x 22 0) 0 (y 32 0) (y 33 0) (y 34 0) (y 35 0) (y 36 0) (y 37) (y 38) (y 39)) H → va_D A (moW T q n (spa (x 0) z (i) (fun i => bty w i)) (spa (x 1) z (i) (fun i => if mkb mm i = 1 then 1 else 0)) (mkF (x 2) (x 18 0)) (cdF (x 2) (x 18 0)) (x 3) (x 4) (x 11 0) (x 12 0) (x 13 0) (x 14 0) (x 15 0) (x 16 0) (x 17 0) (x 18 0) (x 19 0) (x 20 0) (x 21 0) (x 22 0) 0 (y 32 0) (y 33 0) (y 34 0) (y 35 0) (y 36 0) (y 37) (y 38) (y 39)) → va_S A s.heap H locs → lv_has ls 7 [(6, .int (iI (i))), (5, .int (iI (j))), (0, .ref (q 20)), (1, .int (iI (z))), (2, .long (w)), (4, .int (iI (mm)))] → W p l e (rmK 1) s m ([.ref (q 20), .int (iI (z)), .long (w), .int (iI (mm))] : List Value).toArray below meth cd H locs 0 0 Q (F0 m 73 ls []) := by
                intro k_
                induction k_ with
                | zero => intro i H locs ls hi hC _ _ _ _; exact absurd hi (by omega)
                | succ k_ ih2 =>
                  intro i H locs ls hi hC hP hD hS hl
                  refine lv_iload hx hb d_MO_put_73 (lv_at hl 0 rfl) ?_
                  refine lv_iload hx hb d_MO_put_75 (lv_at hl 1 rfl) ?_
                  refine cx_icmp_ge (tgt := 143) hx hb d_MO_put_77 rfl (by omega) (by omega) (fun h77 => ?_) (fun h77 => ?_)
                  · obtain rfl : j = i := by omega
                    refine lv_aload_n hx hb d_MO_put_143 rfl (lv_at hl 2 rfl) ?_
                    refine va_get (D := D) (ci := 5) (v := .int (iI (0))) (C := R_MO) (T := T_MO) (N := 28) hx hb hT lays_MO hown hK hP 0 rfl rfl 0 (by decide) (hT _ tw_636) (fun _ h9 => h9) rfl d_MO_put_144 ?_
                    refine cx_if_le (tgt := 154) hx hb d_MO_put_147 rfl (by omega) (fun _ => ?_) (fun h0 => absurd h0 (by decide))
                    refine lv_iload hx hb d_MO_put_154 (lv_at hl 1 rfl) ?_
                    exact hret ((up (up x 0 (spa (x 0) z (j) (fun i => bty w i))) 1 (spa (x 1) z (j) (fun i => if mkb mm i = 1 then 1 else 0)), up y 31 (cst 0)) : SX × SX) (⟨by rw [if_neg (by omega), hL], by rw [if_neg (by omega), if_neg (by omega)]; unfold putX; rw [hL], (show okX (up (up x 0 (spa (x 0) z (j) (fun i => bty w i))) 1 (spa (x 1) z (j) (fun i => if mkb mm i = 1 then 1 else 0))) from ⟨hC, (show okR (x 11 0) (x 12 0) (x 13 0) (x 14 0) (x 15 0) (x 16 0) (x 17 0) (x 18 0) (x 19 0) (x 20 0) by have h8 := hX.2.1; unfold okR at h8 ⊢; omega), hX.2.2⟩)⟩) hP hD hS d_MO_put_156
                  · refine lv_aload_n hx hb d_MO_put_80 rfl (lv_at hl 2 rfl) ?_
                    refine va_get (D := D) (ci := 5) (v := .int (iI (0))) (C := R_MO) (T := T_MO) (N := 28) hx hb hT lays_MO hown hK hP 0 rfl rfl 0 (by decide) (hT _ tw_636) (fun _ h9 => h9) rfl d_MO_put_81 ?_
                    refine cx_if_ne (tgt := 143) hx hb d_MO_put_84 rfl (by omega) (fun h0 => absurd h0 (by decide)) (fun _ => ?_)
                    refine lv_aload_n hx hb d_MO_put_87 rfl (lv_at hl 2 rfl) ?_
                    refine va_get (D := D) (ci := 5) (v := .ref (q 21)) (C := R_MO) (T := T_MO) (N := 28) hx hb hT lays_MO hown hK hP 0 rfl rfl 2 (by decide) (hT _ tw_638) (fun _ h9 => h9) rfl d_MO_put_88 ?_
                    refine lv_iload_n hx hb d_MO_put_91 rfl (lv_at hl 3 rfl) ?_
                    refine lv_iload hx hb d_MO_put_92 (lv_at hl 0 rfl) ?_
                    refine cx_iadd hx hb d_MO_put_94 ?_
                    refine lv_lload_n hx hb d_MO_put_95 rfl (lv_at hl 4 rfl) ?_
                    refine cx_bipush hx hb d_MO_put_96 rfl ?_
                    refine cx_bipush hx hb d_MO_put_98 rfl ?_
                    refine lv_iload hx hb d_MO_put_100 (lv_at hl 0 rfl) ?_
                    refine cx_imul hx hb d_MO_put_102 ?_
                    refine cx_isub hx hb d_MO_put_103 ?_
                    refine lv_lshr (v := w >>> ((iI (56 - 8 * i)).toInt64 &&& 63)) hx hb d_MO_put_104 rfl ?_
                    refine lv_ldc2 (v := 63) hx hb hown (hT _ tw_744) d_MO_put_105 ?_
                    refine lv_land hx hb d_MO_put_108 ?_
                    have hb8 := bty_in w i
                    have hb7 := hb9 i (by omega) (by omega)
                    refine lv_l2i (v := iI (bty w i % 64)) hx hb d_MO_put_109 (sh_S63 w (by omega)) ?_
                    refine cx_eq (show iI (bty w i % 64) = iI (bty w i) from by rw [Int.emod_eq_of_lt (by omega) (by omega)]) ?_
                    refine lv_i2b (v := iI (bty w i)) hx hb d_MO_put_110 (i2b_ok (by omega)) ?_
                    refine cx_bast (g := iF (spa (x 0) z (i) (fun i => bty w i))) (g' := iF (fu (spa (x 0) z (i) (fun i => bty w i)) (z + i) (bty w i))) hx hb hK hP hD hS 1 1 rfl rfl (by omega) (by omega) (by omega) (fun j => iF_put j) d_MO_put_111 (fun H locs hP hD hS => ?_)
                    have hP : va_P D vwCl (moW T q n (fu (spa (x 0) z (i) (fun i => bty w i)) (z + i) (bty w i)) (spa (x 1) z (i) (fun i => if mkb mm i = 1 then 1 else 0)) (mkF (x 2) (x 18 0)) (cdF (x 2) (x 18 0)) (x 3) (x 4) (x 11 0) (x 12 0) (x 13 0) (x 14 0) (x 15 0) (x 16 0) (x 17 0) (x 18 0) (x 19 0) (x 20 0) (x 21 0) (x 22 0) 0 (y 32 0) (y 33 0) (y 34 0) (y 35 0) (y 36 0) (y 37) (y 38) (y 39)) H := hP
                    have hD : va_D A (moW T q n (fu (spa (x 0) z (i) (fun i => bty w i)) (z + i) (bty w i)) (spa (x 1) z (i) (fun i => if mkb mm i = 1 then 1 else 0)) (mkF (x 2) (x 18 0)) (cdF (x 2) (x 18 0)) (x 3) (x 4) (x 11 0) (x 12 0) (x 13 0) (x 14 0) (x 15 0) (x 16 0) (x 17 0) (x 18 0) (x 19 0) (x 20 0) (x 21 0) (x 22 0) 0 (y 32 0) (y 33 0) (y 34 0) (y 35 0) (y 36 0) (y 37) (y 38) (y 39)) := hD
                    have hC : okC (fu (spa (x 0) z (i) (fun i => bty w i)) (z + i) (bty w i)) (spa (x 1) z (i) (fun i => if mkb mm i = 1 then 1 else 0)) := okC_fu hC (by omega)
                    refine lv_aload_n hx hb d_MO_put_112 rfl (lv_at hl 2 rfl) ?_
                    refine va_get (D := D) (ci := 5) (v := .ref (q 22)) (C := R_MO) (T := T_MO) (N := 28) hx hb hT lays_MO hown hK hP 0 rfl rfl 3 (by decide) (hT _ tw_639) (fun _ h9 => h9) rfl d_MO_put_113 ?_
                    refine lv_iload_n hx hb d_MO_put_116 rfl (lv_at hl 3 rfl) ?_
                    refine lv_iload hx hb d_MO_put_117 (lv_at hl 0 rfl) ?_
                    refine cx_iadd hx hb d_MO_put_119 ?_
                    refine lv_iload hx hb d_MO_put_120 (lv_at hl 5 rfl) ?_
                    refine lv_iload hx hb d_MO_put_122 (lv_at hl 0 rfl) ?_
                    refine lv_ishr hx hb d_MO_put_124 ?_
                    refine cx_eq (shI_e mm i) ?_
                    refine cx_iconst hx hb d_MO_put_125 ?_
                    refine lv_iand hx hb d_MO_put_126 ?_
                    refine cx_eq (mkb_e mm i) ?_
                    have hmb := mkb_in mm i
                    refine cx_iconst hx hb d_MO_put_127 ?_
                    refine cx_icmp_ne (tgt := 135) hx hb d_MO_put_128 rfl (by omega) (by omega) (fun h128 => ?_) (fun h128 => ?_)
                    · refine cx_iconst hx hb d_MO_put_135 ?_
                      refine cx_zast (g := iF (spa (x 1) z (i) (fun i => if mkb mm i = 1 then 1 else 0))) (g' := iF (fu (spa (x 1) z (i) (fun i => if mkb mm i = 1 then 1 else 0)) (z + i) (0))) hx hb hK hP hD hS 2 2 rfl rfl (by omega) (by omega) (by omega) (fun j => iF_put j) d_MO_put_136 (fun H locs hP hD hS => ?_)
                      have hP : va_P D vwCl (moW T q n (fu (spa (x 0) z (i) (fun i => bty w i)) (z + i) (bty w i)) (fu (spa (x 1) z (i) (fun i => if mkb mm i = 1 then 1 else 0)) (z + i) (0)) (mkF (x 2) (x 18 0)) (cdF (x 2) (x 18 0)) (x 3) (x 4) (x 11 0) (x 12 0) (x 13 0) (x 14 0) (x 15 0) (x 16 0) (x 17 0) (x 18 0) (x 19 0) (x 20 0) (x 21 0) (x 22 0) 0 (y 32 0) (y 33 0) (y 34 0) (y 35 0) (y 36 0) (y 37) (y 38) (y 39)) H := hP
                      have hD : va_D A (moW T q n (fu (spa (x 0) z (i) (fun i => bty w i)) (z + i) (bty w i)) (fu (spa (x 1) z (i) (fun i => if mkb mm i = 1 then 1 else 0)) (z + i) (0)) (mkF (x 2) (x 18 0)) (cdF (x 2) (x 18 0)) (x 3) (x 4) (x 11 0) (x 12 0) (x 13 0) (x 14 0) (x 15 0) (x 16 0) (x 17 0) (x 18 0) (x 19 0) (x 20 0) (x 21 0) (x 22 0) 0 (y 32 0) (y 33 0) (y 34 0) (y 35 0) (y 36 0) (y 37) (y 38) (y 39)) := hD
                      have hC : okC (fu (spa (x 0) z (i) (fun i => bty w i)) (z + i) (bty w i)) (fu (spa (x 1) z (i) (fun i => if mkb mm i = 1 then 1 else 0)) (z + i) (0)) := okC_mk hC (by omega)
                      refine cx_iinc (k := 0) (lv' := [(6, .int (iI (i + 1))), (5, .int (iI (j))), (0, .ref (q 20)), (1, .int (iI (z))), (2, .long (w)), (4, .int (iI (mm)))]) hx hb d_MO_put_137 hl rfl (by decide) rfl (fun ls hl => ?_)
                      refine lv_goto (tgt := 73) hx hb d_MO_put_140 rfl ?_
                      rw [spa_step (F := (fun i => bty w i)) (k2 := i + 1) (by omega) rfl rfl rfl, spa_step (F := (fun i => if mkb mm i = 1 then 1 else 0)) (k2 := i + 1) (by omega) rfl rfl (by show (if mkb mm i = 1 then (1 : Int) else 0) = _; rw [if_neg (by omega)])] at hP hD hC
                      exact ih2 (i + 1) _ _ _ (by omega) hC hP hD hS (lv_sub hl [0, 1, 2, 3, 4, 5] rfl)
                    · refine cx_iconst hx hb d_MO_put_131 ?_
                      refine lv_goto (tgt := 136) hx hb d_MO_put_132 rfl ?_
                      refine cx_zast (g := iF (spa (x 1) z (i) (fun i => if mkb mm i = 1 then 1 else 0))) (g' := iF (fu (spa (x 1) z (i) (fun i => if mkb mm i = 1 then 1 else 0)) (z + i) (1))) hx hb hK hP hD hS 2 2 rfl rfl (by omega) (by omega) (by omega) (fun j => iF_put j) d_MO_put_136 (fun H locs hP hD hS => ?_)
                      have hP : va_P D vwCl (moW T q n (fu (spa (x 0) z (i) (fun i => bty w i)) (z + i) (bty w i)) (fu (spa (x 1) z (i) (fun i => if mkb mm i = 1 then 1 else 0)) (z + i) (1)) (mkF (x 2) (x 18 0)) (cdF (x 2) (x 18 0)) (x 3) (x 4) (x 11 0) (x 12 0) (x 13 0) (x 14 0) (x 15 0) (x 16 0) (x 17 0) (x 18 0) (x 19 0) (x 20 0) (x 21 0) (x 22 0) 0 (y 32 0) (y 33 0) (y 34 0) (y 35 0) (y 36 0) (y 37) (y 38) (y 39)) H := hP
                      have hD : va_D A (moW T q n (fu (spa (x 0) z (i) (fun i => bty w i)) (z + i) (bty w i)) (fu (spa (x 1) z (i) (fun i => if mkb mm i = 1 then 1 else 0)) (z + i) (1)) (mkF (x 2) (x 18 0)) (cdF (x 2) (x 18 0)) (x 3) (x 4) (x 11 0) (x 12 0) (x 13 0) (x 14 0) (x 15 0) (x 16 0) (x 17 0) (x 18 0) (x 19 0) (x 20 0) (x 21 0) (x 22 0) 0 (y 32 0) (y 33 0) (y 34 0) (y 35 0) (y 36 0) (y 37) (y 38) (y 39)) := hD
                      have hC : okC (fu (spa (x 0) z (i) (fun i => bty w i)) (z + i) (bty w i)) (fu (spa (x 1) z (i) (fun i => if mkb mm i = 1 then 1 else 0)) (z + i) (1)) := okC_mk hC (by omega)
                      refine cx_iinc (k := 0) (lv' := [(6, .int (iI (i + 1))), (5, .int (iI (j))), (0, .ref (q 20)), (1, .int (iI (z))), (2, .long (w)), (4, .int (iI (mm)))]) hx hb d_MO_put_137 hl rfl (by decide) rfl (fun ls hl => ?_)
                      refine lv_goto (tgt := 73) hx hb d_MO_put_140 rfl ?_
                      rw [spa_step (F := (fun i => bty w i)) (k2 := i + 1) (by omega) rfl rfl rfl, spa_step (F := (fun i => if mkb mm i = 1 then 1 else 0)) (k2 := i + 1) (by omega) rfl rfl (by show (if mkb mm i = 1 then (1 : Int) else 0) = _; rw [if_pos (by omega)])] at hP hD hC
                      exact ih2 (i + 1) _ _ _ (by omega) hC hP hD hS (lv_sub hl [0, 1, 2, 3, 4, 5] rfl)
              rw [← spa_0 (x 0) z (fun i => bty w i), ← spa_0 (x 1) z (fun i => if mkb mm i = 1 then 1 else 0)] at hP hD
              exact L2 10 0 _ _ _ (by omega) (by rw [spa_0, spa_0]; exact hC) hP hD hS (lv_sub hl [0, 1, 2, 3, 4, 5] rfl)
            · refine cx_iconst hx hb d_MO_put_62 ?_
              refine lv_goto (tgt := 67) hx hb d_MO_put_63 rfl ?_
              refine va_put (D := D) (ci := 5) (v := .int (iI (1))) (ty := .int) (C := R_MO) (T := T_MO) (N := 28) hx hb hT lays_MO t_MO t_MO_ok n_MO hown hK hP hD hS 0 rfl rfl 0 (by decide) (hT _ tw_636) (fun _ h9 => h9) rfl (by decide +kernel) rfl rfl (Nat.le_of_ble_eq_true rfl) d_MO_put_67 (fun H locs hP hD hS => ?_)
              have hP : va_P D vwCl (moW T q n (x 0) (x 1) (mkF (x 2) (x 18 0)) (cdF (x 2) (x 18 0)) (x 3) (x 4) (x 11 0) (x 12 0) (x 13 0) (x 14 0) (x 15 0) (x 16 0) (x 17 0) (x 18 0) (x 19 0) (x 20 0) (x 21 0) (x 22 0) 1 (y 32 0) (y 33 0) (y 34 0) (y 35 0) (y 36 0) (y 37) (y 38) (y 39)) H := hP
              have hD : va_D A (moW T q n (x 0) (x 1) (mkF (x 2) (x 18 0)) (cdF (x 2) (x 18 0)) (x 3) (x 4) (x 11 0) (x 12 0) (x 13 0) (x 14 0) (x 15 0) (x 16 0) (x 17 0) (x 18 0) (x 19 0) (x 20 0) (x 21 0) (x 22 0) 1 (y 32 0) (y 33 0) (y 34 0) (y 35 0) (y 36 0) (y 37) (y 38) (y 39)) := hD
              refine cx_iconst hx hb d_MO_put_70 ?_
              refine lv_istore (lv' := [(6, .int (iI (0))), (5, .int (iI (j))), (0, .ref (q 20)), (1, .int (iI (z))), (2, .long (w)), (4, .int (iI (mm)))]) hx hb d_MO_put_71 hl (by decide) rfl (fun ls hl => ?_)
              refine lv_iload hx hb d_MO_put_73 (lv_at hl 0 rfl) ?_
              refine lv_iload hx hb d_MO_put_75 (lv_at hl 1 rfl) ?_
              refine cx_icmp_ge (tgt := 143) hx hb d_MO_put_77 rfl (by omega) (by omega) (fun h77 => ?_) (fun h77 => ?_)
              · refine lv_aload_n hx hb d_MO_put_143 rfl (lv_at hl 2 rfl) ?_
                refine va_get (D := D) (ci := 5) (v := .int (iI (1))) (C := R_MO) (T := T_MO) (N := 28) hx hb hT lays_MO hown hK hP 0 rfl rfl 0 (by decide) (hT _ tw_636) (fun _ h9 => h9) rfl d_MO_put_144 ?_
                refine cx_if_le (tgt := 154) hx hb d_MO_put_147 rfl (by omega) (fun h0 => absurd h0 (by decide)) (fun _ => ?_)
                refine cx_iconst hx hb d_MO_put_150 ?_
                refine lv_goto (tgt := 156) hx hb d_MO_put_151 rfl ?_
                exact hret ((x, up y 31 (cst 1)) : SX × SX) (⟨by rw [if_pos (by omega)], by rw [if_pos (by omega), if_pos (by omega)], hX⟩) hP hD hS d_MO_put_156
              · refine lv_aload_n hx hb d_MO_put_80 rfl (lv_at hl 2 rfl) ?_
                refine va_get (D := D) (ci := 5) (v := .int (iI (1))) (C := R_MO) (T := T_MO) (N := 28) hx hb hT lays_MO hown hK hP 0 rfl rfl 0 (by decide) (hT _ tw_636) (fun _ h9 => h9) rfl d_MO_put_81 ?_
                refine cx_if_ne (tgt := 143) hx hb d_MO_put_84 rfl (by omega) (fun _ => ?_) (fun h0 => absurd h0 (by decide))
                refine lv_aload_n hx hb d_MO_put_143 rfl (lv_at hl 2 rfl) ?_
                refine va_get (D := D) (ci := 5) (v := .int (iI (1))) (C := R_MO) (T := T_MO) (N := 28) hx hb hT lays_MO hown hK hP 0 rfl rfl 0 (by decide) (hT _ tw_636) (fun _ h9 => h9) rfl d_MO_put_144 ?_
                refine cx_if_le (tgt := 154) hx hb d_MO_put_147 rfl (by omega) (fun h0 => absurd h0 (by decide)) (fun _ => ?_)
                refine cx_iconst hx hb d_MO_put_150 ?_
                refine lv_goto (tgt := 156) hx hb d_MO_put_151 rfl ?_
                exact hret ((x, up y 31 (cst 1)) : SX × SX) (⟨by rw [if_pos (by omega)], by rw [if_pos (by omega), if_pos (by omega)], hX⟩) hP hD hS d_MO_put_156
          · refine cx_if_eq (tgt := 62) hx hb d_MO_put_48 rfl (by omega) (fun _ => ?_) (fun h0 => absurd h0 (by decide))
            refine cx_iconst hx hb d_MO_put_62 ?_
            refine lv_goto (tgt := 67) hx hb d_MO_put_63 rfl ?_
            refine va_put (D := D) (ci := 5) (v := .int (iI (1))) (ty := .int) (C := R_MO) (T := T_MO) (N := 28) hx hb hT lays_MO t_MO t_MO_ok n_MO hown hK hP hD hS 0 rfl rfl 0 (by decide) (hT _ tw_636) (fun _ h9 => h9) rfl (by decide +kernel) rfl rfl (Nat.le_of_ble_eq_true rfl) d_MO_put_67 (fun H locs hP hD hS => ?_)
            have hP : va_P D vwCl (moW T q n (x 0) (x 1) (mkF (x 2) (x 18 0)) (cdF (x 2) (x 18 0)) (x 3) (x 4) (x 11 0) (x 12 0) (x 13 0) (x 14 0) (x 15 0) (x 16 0) (x 17 0) (x 18 0) (x 19 0) (x 20 0) (x 21 0) (x 22 0) 1 (y 32 0) (y 33 0) (y 34 0) (y 35 0) (y 36 0) (y 37) (y 38) (y 39)) H := hP
            have hD : va_D A (moW T q n (x 0) (x 1) (mkF (x 2) (x 18 0)) (cdF (x 2) (x 18 0)) (x 3) (x 4) (x 11 0) (x 12 0) (x 13 0) (x 14 0) (x 15 0) (x 16 0) (x 17 0) (x 18 0) (x 19 0) (x 20 0) (x 21 0) (x 22 0) 1 (y 32 0) (y 33 0) (y 34 0) (y 35 0) (y 36 0) (y 37) (y 38) (y 39)) := hD
            refine cx_iconst hx hb d_MO_put_70 ?_
            refine lv_istore (lv' := [(6, .int (iI (0))), (5, .int (iI (j))), (0, .ref (q 20)), (1, .int (iI (z))), (2, .long (w)), (4, .int (iI (mm)))]) hx hb d_MO_put_71 hl (by decide) rfl (fun ls hl => ?_)
            refine lv_iload hx hb d_MO_put_73 (lv_at hl 0 rfl) ?_
            refine lv_iload hx hb d_MO_put_75 (lv_at hl 1 rfl) ?_
            refine cx_icmp_ge (tgt := 143) hx hb d_MO_put_77 rfl (by omega) (by omega) (fun h77 => ?_) (fun h77 => ?_)
            · refine lv_aload_n hx hb d_MO_put_143 rfl (lv_at hl 2 rfl) ?_
              refine va_get (D := D) (ci := 5) (v := .int (iI (1))) (C := R_MO) (T := T_MO) (N := 28) hx hb hT lays_MO hown hK hP 0 rfl rfl 0 (by decide) (hT _ tw_636) (fun _ h9 => h9) rfl d_MO_put_144 ?_
              refine cx_if_le (tgt := 154) hx hb d_MO_put_147 rfl (by omega) (fun h0 => absurd h0 (by decide)) (fun _ => ?_)
              refine cx_iconst hx hb d_MO_put_150 ?_
              refine lv_goto (tgt := 156) hx hb d_MO_put_151 rfl ?_
              exact hret ((x, up y 31 (cst 1)) : SX × SX) (⟨by rw [if_pos (by omega)], by rw [if_pos (by omega), if_pos (by omega)], hX⟩) hP hD hS d_MO_put_156
            · refine lv_aload_n hx hb d_MO_put_80 rfl (lv_at hl 2 rfl) ?_
              refine va_get (D := D) (ci := 5) (v := .int (iI (1))) (C := R_MO) (T := T_MO) (N := 28) hx hb hT lays_MO hown hK hP 0 rfl rfl 0 (by decide) (hT _ tw_636) (fun _ h9 => h9) rfl d_MO_put_81 ?_
              refine cx_if_ne (tgt := 143) hx hb d_MO_put_84 rfl (by omega) (fun _ => ?_) (fun h0 => absurd h0 (by decide))
              refine lv_aload_n hx hb d_MO_put_143 rfl (lv_at hl 2 rfl) ?_
              refine va_get (D := D) (ci := 5) (v := .int (iI (1))) (C := R_MO) (T := T_MO) (N := 28) hx hb hT lays_MO hown hK hP 0 rfl rfl 0 (by decide) (hT _ tw_636) (fun _ h9 => h9) rfl d_MO_put_144 ?_
              refine cx_if_le (tgt := 154) hx hb d_MO_put_147 rfl (by omega) (fun h0 => absurd h0 (by decide)) (fun _ => ?_)
              refine cx_iconst hx hb d_MO_put_150 ?_
              refine lv_goto (tgt := 156) hx hb d_MO_put_151 rfl ?_
              exact hret ((x, up y 31 (cst 1)) : SX × SX) (⟨by rw [if_pos (by omega)], by rw [if_pos (by omega), if_pos (by omega)], hX⟩) hP hD hS d_MO_put_156
      · refine lv_lload_n hx hb d_MO_put_10 rfl (lv_at hl 3 rfl) ?_
        refine cx_bipush hx hb d_MO_put_11 rfl ?_
        refine cx_bipush hx hb d_MO_put_13 rfl ?_
        refine lv_iload hx hb d_MO_put_15 (lv_at hl 0 rfl) ?_
        refine cx_imul hx hb d_MO_put_17 ?_
        refine cx_isub hx hb d_MO_put_18 ?_
        refine lv_lshr (v := w >>> ((iI (56 - 8 * j)).toInt64 &&& 63)) hx hb d_MO_put_19 rfl ?_
        refine lv_ldc2 (v := 255) hx hb hown (hT _ tw_742) d_MO_put_20 ?_
        refine lv_land hx hb d_MO_put_23 ?_
        rw [sh_S w (by omega)]
        refine lv_ldc2 (v := 64) hx hb hown (hT _ tw_743) d_MO_put_24 ?_
        refine cx_lcmp hx hb d_MO_put_27 (fun v28 hv28 hv29 => ?_)
        rw [bty_int, show (64 : Int64).toInt = 64 from rfl] at hv29
        refine cx_if_ge (tgt := 37) hx hb d_MO_put_28 rfl (by omega) (fun h28 => ?_) (fun h28 => ?_)
        · have hL : pcn w 9 0 = j := by rw [hf, pcn, if_neg (by omega)]
          have hb9 : ∀ i, 0 ≤ i → i < j → bty w i < 64 := by have h9 := (pcn_in w 9 0 (by omega) (by omega) (by omega)).2.2; rw [hL] at h9; exact h9
          refine lv_aload_n hx hb d_MO_put_37 rfl (lv_at hl 1 rfl) ?_
          refine lv_iload hx hb d_MO_put_38 (lv_at hl 0 rfl) ?_
          refine cx_if_le (tgt := 66) hx hb d_MO_put_40 rfl (by omega) (fun h40 => ?_) (fun h40 => ?_)
          · refine cx_iconst hx hb d_MO_put_66 ?_
            refine va_put (D := D) (ci := 5) (v := .int (iI (0))) (ty := .int) (C := R_MO) (T := T_MO) (N := 28) hx hb hT lays_MO t_MO t_MO_ok n_MO hown hK hP hD hS 0 rfl rfl 0 (by decide) (hT _ tw_636) (fun _ h9 => h9) rfl (by decide +kernel) rfl rfl (Nat.le_of_ble_eq_true rfl) d_MO_put_67 (fun H locs hP hD hS => ?_)
            have hP : va_P D vwCl (moW T q n (x 0) (x 1) (mkF (x 2) (x 18 0)) (cdF (x 2) (x 18 0)) (x 3) (x 4) (x 11 0) (x 12 0) (x 13 0) (x 14 0) (x 15 0) (x 16 0) (x 17 0) (x 18 0) (x 19 0) (x 20 0) (x 21 0) (x 22 0) 0 (y 32 0) (y 33 0) (y 34 0) (y 35 0) (y 36 0) (y 37) (y 38) (y 39)) H := hP
            have hD : va_D A (moW T q n (x 0) (x 1) (mkF (x 2) (x 18 0)) (cdF (x 2) (x 18 0)) (x 3) (x 4) (x 11 0) (x 12 0) (x 13 0) (x 14 0) (x 15 0) (x 16 0) (x 17 0) (x 18 0) (x 19 0) (x 20 0) (x 21 0) (x 22 0) 0 (y 32 0) (y 33 0) (y 34 0) (y 35 0) (y 36 0) (y 37) (y 38) (y 39)) := hD
            refine cx_iconst hx hb d_MO_put_70 ?_
            refine lv_istore (lv' := [(6, .int (iI (0))), (5, .int (iI (j))), (0, .ref (q 20)), (1, .int (iI (z))), (2, .long (w)), (4, .int (iI (mm)))]) hx hb d_MO_put_71 hl (by decide) rfl (fun ls hl => ?_)
            have L2 : ∀ (k_ : Nat) (i : Int) (H : Heap) (locs : List Loc) (ls : Array Slot), (0 ≤ i ∧ i ≤ j ∧ j - i < k_) → (okC (spa (x 0) z (i) (fun i => bty w i)) (spa (x 1) z (i) (fun i => if mkb mm i = 1 then 1 else 0))) → va_P D vwCl (moW T q n (spa (x 0) z (i) (fun i => bty w i)) (spa (x 1) z (i) (fun i => if mkb mm i = 1 then 1 else 0)) (mkF (x 2) (x 18 0)) (cdF (x 2) (x 18 0)) (x 3) (x 4) (x 11 0) (x 12 0) (x 13 0) (x 14 0) (x 15 0) (x 16 0) (x 17 0) (x 18 0) (x 19 0) (x 20 0) (x 21 0) (x 22 0) 0 (y 32 0) (y 33 0) (y 34 0) (y 35 0) (y 36 0) (y 37) (y 38) (y 39)) H → va_D A (moW T q n (spa (x 0) z (i) (fun i => bty w i)) (spa (x 1) z (i) (fun i => if mkb mm i = 1 then 1 else 0)) (mkF (x 2) (x 18 0)) (cdF (x 2) (x 18 0)) (x 3) (x 4) (x 11 0) (x 12 0) (x 13 0) (x 14 0) (x 15 0) (x 16 0) (x 17 0) (x 18 0) (x 19 0) (x 20 0) (x 21 0) (x 22 0) 0 (y 32 0) (y 33 0) (y 34 0) (y 35 0) (y 36 0) (y 37) (y 38) (y 39)) → va_S A s.heap H locs → lv_has ls 7 [(6, .int (iI (i))), (5, .int (iI (j))), (0, .ref (q 20)), (1, .int (iI (z))), (2, .long (w)), (4, .int (iI (mm)))] → W p l e (rmK 1) s m ([.ref (q 20), .int (iI (z)), .long (w), .int (iI (mm))] : List Value).toArray below meth cd H locs 0 0 Q (F0 m 73 ls []) := by
              intro k_
              induction k_ with
              | zero => intro i H locs ls hi hC _ _ _ _; exact absurd hi (by omega)
              | succ k_ ih2 =>
                intro i H locs ls hi hC hP hD hS hl
                refine lv_iload hx hb d_MO_put_73 (lv_at hl 0 rfl) ?_
                refine lv_iload hx hb d_MO_put_75 (lv_at hl 1 rfl) ?_
                refine cx_icmp_ge (tgt := 143) hx hb d_MO_put_77 rfl (by omega) (by omega) (fun h77 => ?_) (fun h77 => ?_)
                · obtain rfl : j = i := by omega
                  refine lv_aload_n hx hb d_MO_put_143 rfl (lv_at hl 2 rfl) ?_
                  refine va_get (D := D) (ci := 5) (v := .int (iI (0))) (C := R_MO) (T := T_MO) (N := 28) hx hb hT lays_MO hown hK hP 0 rfl rfl 0 (by decide) (hT _ tw_636) (fun _ h9 => h9) rfl d_MO_put_144 ?_
                  refine cx_if_le (tgt := 154) hx hb d_MO_put_147 rfl (by omega) (fun _ => ?_) (fun h0 => absurd h0 (by decide))
                  refine lv_iload hx hb d_MO_put_154 (lv_at hl 1 rfl) ?_
                  exact hret ((up (up x 0 (spa (x 0) z (j) (fun i => bty w i))) 1 (spa (x 1) z (j) (fun i => if mkb mm i = 1 then 1 else 0)), up y 31 (cst 0)) : SX × SX) (⟨by rw [if_neg (by omega), hL], by rw [if_neg (by omega), if_neg (by omega)]; unfold putX; rw [hL], (show okX (up (up x 0 (spa (x 0) z (j) (fun i => bty w i))) 1 (spa (x 1) z (j) (fun i => if mkb mm i = 1 then 1 else 0))) from ⟨hC, (show okR (x 11 0) (x 12 0) (x 13 0) (x 14 0) (x 15 0) (x 16 0) (x 17 0) (x 18 0) (x 19 0) (x 20 0) by have h8 := hX.2.1; unfold okR at h8 ⊢; omega), hX.2.2⟩)⟩) hP hD hS d_MO_put_156
                · refine lv_aload_n hx hb d_MO_put_80 rfl (lv_at hl 2 rfl) ?_
                  refine va_get (D := D) (ci := 5) (v := .int (iI (0))) (C := R_MO) (T := T_MO) (N := 28) hx hb hT lays_MO hown hK hP 0 rfl rfl 0 (by decide) (hT _ tw_636) (fun _ h9 => h9) rfl d_MO_put_81 ?_
                  refine cx_if_ne (tgt := 143) hx hb d_MO_put_84 rfl (by omega) (fun h0 => absurd h0 (by decide)) (fun _ => ?_)
                  refine lv_aload_n hx hb d_MO_put_87 rfl (lv_at hl 2 rfl) ?_
                  refine va_get (D := D) (ci := 5) (v := .ref (q 21)) (C := R_MO) (T := T_MO) (N := 28) hx hb hT lays_MO hown hK hP 0 rfl rfl 2 (by decide) (hT _ tw_638) (fun _ h9 => h9) rfl d_MO_put_88 ?_
                  refine lv_iload_n hx hb d_MO_put_91 rfl (lv_at hl 3 rfl) ?_
                  refine lv_iload hx hb d_MO_put_92 (lv_at hl 0 rfl) ?_
                  refine cx_iadd hx hb d_MO_put_94 ?_
                  refine lv_lload_n hx hb d_MO_put_95 rfl (lv_at hl 4 rfl) ?_
                  refine cx_bipush hx hb d_MO_put_96 rfl ?_
                  refine cx_bipush hx hb d_MO_put_98 rfl ?_
                  refine lv_iload hx hb d_MO_put_100 (lv_at hl 0 rfl) ?_
                  refine cx_imul hx hb d_MO_put_102 ?_
                  refine cx_isub hx hb d_MO_put_103 ?_
                  refine lv_lshr (v := w >>> ((iI (56 - 8 * i)).toInt64 &&& 63)) hx hb d_MO_put_104 rfl ?_
                  refine lv_ldc2 (v := 63) hx hb hown (hT _ tw_744) d_MO_put_105 ?_
                  refine lv_land hx hb d_MO_put_108 ?_
                  have hb8 := bty_in w i
                  have hb7 := hb9 i (by omega) (by omega)
                  refine lv_l2i (v := iI (bty w i % 64)) hx hb d_MO_put_109 (sh_S63 w (by omega)) ?_
                  refine cx_eq (show iI (bty w i % 64) = iI (bty w i) from by rw [Int.emod_eq_of_lt (by omega) (by omega)]) ?_
                  refine lv_i2b (v := iI (bty w i)) hx hb d_MO_put_110 (i2b_ok (by omega)) ?_
                  refine cx_bast (g := iF (spa (x 0) z (i) (fun i => bty w i))) (g' := iF (fu (spa (x 0) z (i) (fun i => bty w i)) (z + i) (bty w i))) hx hb hK hP hD hS 1 1 rfl rfl (by omega) (by omega) (by omega) (fun j => iF_put j) d_MO_put_111 (fun H locs hP hD hS => ?_)
                  have hP : va_P D vwCl (moW T q n (fu (spa (x 0) z (i) (fun i => bty w i)) (z + i) (bty w i)) (spa (x 1) z (i) (fun i => if mkb mm i = 1 then 1 else 0)) (mkF (x 2) (x 18 0)) (cdF (x 2) (x 18 0)) (x 3) (x 4) (x 11 0) (x 12 0) (x 13 0) (x 14 0) (x 15 0) (x 16 0) (x 17 0) (x 18 0) (x 19 0) (x 20 0) (x 21 0) (x 22 0) 0 (y 32 0) (y 33 0) (y 34 0) (y 35 0) (y 36 0) (y 37) (y 38) (y 39)) H := hP
                  have hD : va_D A (moW T q n (fu (spa (x 0) z (i) (fun i => bty w i)) (z + i) (bty w i)) (spa (x 1) z (i) (fun i => if mkb mm i = 1 then 1 else 0)) (mkF (x 2) (x 18 0)) (cdF (x 2) (x 18 0)) (x 3) (x 4) (x 11 0) (x 12 0) (x 13 0) (x 14 0) (x 15 0) (x 16 0) (x 17 0) (x 18 0) (x 19 0) (x 20 0) (x 21 0) (x 22 0) 0 (y 32 0) (y 33 0) (y 34 0) (y 35 0) (y 36 0) (y 37) (y 38) (y 39)) := hD
                  have hC : okC (fu (spa (x 0) z (i) (fun i => bty w i)) (z + i) (bty w i)) (spa (x 1) z (i) (fun i => if mkb mm i = 1 then 1 else 0)) := okC_fu hC (by omega)
                  refine lv_aload_n hx hb d_MO_put_112 rfl (lv_at hl 2 rfl) ?_
                  refine va_get (D := D) (ci := 5) (v := .ref (q 22)) (C := R_MO) (T := T_MO) (N := 28) hx hb hT lays_MO hown hK hP 0 rfl rfl 3 (by decide) (hT _ tw_639) (fun _ h9 => h9) rfl d_MO_put_113 ?_
                  refine lv_iload_n hx hb d_MO_put_116 rfl (lv_at hl 3 rfl) ?_
                  refine lv_iload hx hb d_MO_put_117 (lv_at hl 0 rfl) ?_
                  refine cx_iadd hx hb d_MO_put_119 ?_
                  refine lv_iload hx hb d_MO_put_120 (lv_at hl 5 rfl) ?_
                  refine lv_iload hx hb d_MO_put_122 (lv_at hl 0 rfl) ?_
                  refine lv_ishr hx hb d_MO_put_124 ?_
                  refine cx_eq (shI_e mm i) ?_
                  refine cx_iconst hx hb d_MO_put_125 ?_
                  refine lv_iand hx hb d_MO_put_126 ?_
                  refine cx_eq (mkb_e mm i) ?_
                  have hmb := mkb_in mm i
                  refine cx_iconst hx hb d_MO_put_127 ?_
                  refine cx_icmp_ne (tgt := 135) hx hb d_MO_put_128 rfl (by omega) (by omega) (fun h128 => ?_) (fun h128 => ?_)
                  · refine cx_iconst hx hb d_MO_put_135 ?_
                    refine cx_zast (g := iF (spa (x 1) z (i) (fun i => if mkb mm i = 1 then 1 else 0))) (g' := iF (fu (spa (x 1) z (i) (fun i => if mkb mm i = 1 then 1 else 0)) (z + i) (0))) hx hb hK hP hD hS 2 2 rfl rfl (by omega) (by omega) (by omega) (fun j => iF_put j) d_MO_put_136 (fun H locs hP hD hS => ?_)
                    have hP : va_P D vwCl (moW T q n (fu (spa (x 0) z (i) (fun i => bty w i)) (z + i) (bty w i)) (fu (spa (x 1) z (i) (fun i => if mkb mm i = 1 then 1 else 0)) (z + i) (0)) (mkF (x 2) (x 18 0)) (cdF (x 2) (x 18 0)) (x 3) (x 4) (x 11 0) (x 12 0) (x 13 0) (x 14 0) (x 15 0) (x 16 0) (x 17 0) (x 18 0) (x 19 0) (x 20 0) (x 21 0) (x 22 0) 0 (y 32 0) (y 33 0) (y 34 0) (y 35 0) (y 36 0) (y 37) (y 38) (y 39)) H := hP
                    have hD : va_D A (moW T q n (fu (spa (x 0) z (i) (fun i => bty w i)) (z + i) (bty w i)) (fu (spa (x 1) z (i) (fun i => if mkb mm i = 1 then 1 else 0)) (z + i) (0)) (mkF (x 2) (x 18 0)) (cdF (x 2) (x 18 0)) (x 3) (x 4) (x 11 0) (x 12 0) (x 13 0) (x 14 0) (x 15 0) (x 16 0) (x 17 0) (x 18 0) (x 19 0) (x 20 0) (x 21 0) (x 22 0) 0 (y 32 0) (y 33 0) (y 34 0) (y 35 0) (y 36 0) (y 37) (y 38) (y 39)) := hD
                    have hC : okC (fu (spa (x 0) z (i) (fun i => bty w i)) (z + i) (bty w i)) (fu (spa (x 1) z (i) (fun i => if mkb mm i = 1 then 1 else 0)) (z + i) (0)) := okC_mk hC (by omega)
                    refine cx_iinc (k := 0) (lv' := [(6, .int (iI (i + 1))), (5, .int (iI (j))), (0, .ref (q 20)), (1, .int (iI (z))), (2, .long (w)), (4, .int (iI (mm)))]) hx hb d_MO_put_137 hl rfl (by decide) rfl (fun ls hl => ?_)
                    refine lv_goto (tgt := 73) hx hb d_MO_put_140 rfl ?_
                    rw [spa_step (F := (fun i => bty w i)) (k2 := i + 1) (by omega) rfl rfl rfl, spa_step (F := (fun i => if mkb mm i = 1 then 1 else 0)) (k2 := i + 1) (by omega) rfl rfl (by show (if mkb mm i = 1 then (1 : Int) else 0) = _; rw [if_neg (by omega)])] at hP hD hC
                    exact ih2 (i + 1) _ _ _ (by omega) hC hP hD hS (lv_sub hl [0, 1, 2, 3, 4, 5] rfl)
                  · refine cx_iconst hx hb d_MO_put_131 ?_
                    refine lv_goto (tgt := 136) hx hb d_MO_put_132 rfl ?_
                    refine cx_zast (g := iF (spa (x 1) z (i) (fun i => if mkb mm i = 1 then 1 else 0))) (g' := iF (fu (spa (x 1) z (i) (fun i => if mkb mm i = 1 then 1 else 0)) (z + i) (1))) hx hb hK hP hD hS 2 2 rfl rfl (by omega) (by omega) (by omega) (fun j => iF_put j) d_MO_put_136 (fun H locs hP hD hS => ?_)
                    have hP : va_P D vwCl (moW T q n (fu (spa (x 0) z (i) (fun i => bty w i)) (z + i) (bty w i)) (fu (spa (x 1) z (i) (fun i => if mkb mm i = 1 then 1 else 0)) (z + i) (1)) (mkF (x 2) (x 18 0)) (cdF (x 2) (x 18 0)) (x 3) (x 4) (x 11 0) (x 12 0) (x 13 0) (x 14 0) (x 15 0) (x 16 0) (x 17 0) (x 18 0) (x 19 0) (x 20 0) (x 21 0) (x 22 0) 0 (y 32 0) (y 33 0) (y 34 0) (y 35 0) (y 36 0) (y 37) (y 38) (y 39)) H := hP
                    have hD : va_D A (moW T q n (fu (spa (x 0) z (i) (fun i => bty w i)) (z + i) (bty w i)) (fu (spa (x 1) z (i) (fun i => if mkb mm i = 1 then 1 else 0)) (z + i) (1)) (mkF (x 2) (x 18 0)) (cdF (x 2) (x 18 0)) (x 3) (x 4) (x 11 0) (x 12 0) (x 13 0) (x 14 0) (x 15 0) (x 16 0) (x 17 0) (x 18 0) (x 19 0) (x 20 0) (x 21 0) (x 22 0) 0 (y 32 0) (y 33 0) (y 34 0) (y 35 0) (y 36 0) (y 37) (y 38) (y 39)) := hD
                    have hC : okC (fu (spa (x 0) z (i) (fun i => bty w i)) (z + i) (bty w i)) (fu (spa (x 1) z (i) (fun i => if mkb mm i = 1 then 1 else 0)) (z + i) (1)) := okC_mk hC (by omega)
                    refine cx_iinc (k := 0) (lv' := [(6, .int (iI (i + 1))), (5, .int (iI (j))), (0, .ref (q 20)), (1, .int (iI (z))), (2, .long (w)), (4, .int (iI (mm)))]) hx hb d_MO_put_137 hl rfl (by decide) rfl (fun ls hl => ?_)
                    refine lv_goto (tgt := 73) hx hb d_MO_put_140 rfl ?_
                    rw [spa_step (F := (fun i => bty w i)) (k2 := i + 1) (by omega) rfl rfl rfl, spa_step (F := (fun i => if mkb mm i = 1 then 1 else 0)) (k2 := i + 1) (by omega) rfl rfl (by show (if mkb mm i = 1 then (1 : Int) else 0) = _; rw [if_pos (by omega)])] at hP hD hC
                    exact ih2 (i + 1) _ _ _ (by omega) hC hP hD hS (lv_sub hl [0, 1, 2, 3, 4, 5] rfl)
            rw [← spa_0 (x 0) z (fun i => bty w i), ← spa_0 (x 1) z (fun i => if mkb mm i = 1 then 1 else 0)] at hP hD
            exact L2 10 0 _ _ _ (by omega) (by rw [spa_0, spa_0]; exact hC) hP hD hS (lv_sub hl [0, 1, 2, 3, 4, 5] rfl)
          · refine lv_aload_n hx hb d_MO_put_43 rfl (lv_at hl 1 rfl) ?_
            refine lv_iload_n hx hb d_MO_put_44 rfl (lv_at hl 2 rfl) ?_
            refine cx_cI (ws2 := fun _ => moW T q n (x 0) (x 1) (mkF (x 2) (x 18 0)) (cdF (x 2) (x 18 0)) (x 3) (x 4) (x 11 0) (x 12 0) (x 13 0) (x 14 0) (x 15 0) (x 16 0) (x 17 0) (x 18 0) (x 19 0) (x 20 0) (x 21 0) (x 22 0) (y 31 0) (y 32 0) (y 33 0) (y 34 0) (y 35 0) (y 36 0) (y 37) (y 38) (y 39)) (cx_rV (q0 := 0) (ci := 5) (rest := [.ref (q 20)]) (As := [.int (iI (z))]) hx hb hml hown hT hK hN hP hD hl.1 tw_731 k_MO_is (c_MO_is l D T H.size q n hn x y hX z (by omega)) ⟨by decide, by decide⟩ ⟨rfl, rfl⟩ [0, 1, 2, 3, 4, 5, 6, 7, 8, 9] (by decide) rfl rfl rfl rfl rfl (Nat.le_of_ble_eq_true rfl) ⟨Nat.zero_le _, Nat.zero_le _⟩ d_MO_put_45) hP hD hS hA [0, 1, 2, 3, 4, 5, 6, 7, 8, 9] [] [0, 1, 2, 3, 4, 5, 6, 7, 8, 9] rfl (wr := []) rfl (by decide) (by decide) (fun _ => rfl) (by decide) (fun r u_ H locs hq45 hP hD hS => ?_)
            rcases hq45 with ⟨rfl, h45⟩ | ⟨rfl, h45⟩
            · refine cx_if_eq (tgt := 62) hx hb d_MO_put_48 rfl (by omega) (fun h0 => absurd h0 (by decide)) (fun _ => ?_)
              refine lv_iload_n hx hb d_MO_put_51 rfl (lv_at hl 2 rfl) ?_
              refine lv_iload hx hb d_MO_put_52 (lv_at hl 0 rfl) ?_
              refine cx_iadd hx hb d_MO_put_54 ?_
              refine lv_aload_n hx hb d_MO_put_55 rfl (lv_at hl 1 rfl) ?_
              refine va_get (D := D) (ci := 5) (v := .int (iI ((n : Int)))) (C := R_MO) (T := T_MO) (N := 28) hx hb hT lays_MO hown hK hP 0 rfl rfl 1 (by decide) (hT _ tw_637) (fun _ h9 => h9) rfl d_MO_put_56 ?_
              refine cx_icmp_le (tgt := 66) hx hb d_MO_put_59 rfl (by omega) (by omega) (fun h59 => ?_) (fun h59 => ?_)
              · refine cx_iconst hx hb d_MO_put_66 ?_
                refine va_put (D := D) (ci := 5) (v := .int (iI (0))) (ty := .int) (C := R_MO) (T := T_MO) (N := 28) hx hb hT lays_MO t_MO t_MO_ok n_MO hown hK hP hD hS 0 rfl rfl 0 (by decide) (hT _ tw_636) (fun _ h9 => h9) rfl (by decide +kernel) rfl rfl (Nat.le_of_ble_eq_true rfl) d_MO_put_67 (fun H locs hP hD hS => ?_)
                have hP : va_P D vwCl (moW T q n (x 0) (x 1) (mkF (x 2) (x 18 0)) (cdF (x 2) (x 18 0)) (x 3) (x 4) (x 11 0) (x 12 0) (x 13 0) (x 14 0) (x 15 0) (x 16 0) (x 17 0) (x 18 0) (x 19 0) (x 20 0) (x 21 0) (x 22 0) 0 (y 32 0) (y 33 0) (y 34 0) (y 35 0) (y 36 0) (y 37) (y 38) (y 39)) H := hP
                have hD : va_D A (moW T q n (x 0) (x 1) (mkF (x 2) (x 18 0)) (cdF (x 2) (x 18 0)) (x 3) (x 4) (x 11 0) (x 12 0) (x 13 0) (x 14 0) (x 15 0) (x 16 0) (x 17 0) (x 18 0) (x 19 0) (x 20 0) (x 21 0) (x 22 0) 0 (y 32 0) (y 33 0) (y 34 0) (y 35 0) (y 36 0) (y 37) (y 38) (y 39)) := hD
                refine cx_iconst hx hb d_MO_put_70 ?_
                refine lv_istore (lv' := [(6, .int (iI (0))), (5, .int (iI (j))), (0, .ref (q 20)), (1, .int (iI (z))), (2, .long (w)), (4, .int (iI (mm)))]) hx hb d_MO_put_71 hl (by decide) rfl (fun ls hl => ?_)
                have L2 : ∀ (k_ : Nat) (i : Int) (H : Heap) (locs : List Loc) (ls : Array Slot), (0 ≤ i ∧ i ≤ j ∧ j - i < k_) → (okC (spa (x 0) z (i) (fun i => bty w i)) (spa (x 1) z (i) (fun i => if mkb mm i = 1 then 1 else 0))) → va_P D vwCl (moW T q n (spa (x 0) z (i) (fun i => bty w i)) (spa (x 1) z (i) (fun i => if mkb mm i = 1 then 1 else 0)) (mkF (x 2) (x 18 0)) (cdF (x 2) (x 18 0)) (x 3) (x 4) (x 11 0) (x 12 0) (x 13 0) (x 14 0) (x 15 0) (x 16 0) (x 17 0) (x 18 0) (x 19 0) (x 20 0) (x 21 0) (x 22 0) 0 (y 32 0) (y 33 0) (y 34 0) (y 35 0) (y 36 0) (y 37) (y 38) (y 39)) H → va_D A (moW T q n (spa (x 0) z (i) (fun i => bty w i)) (spa (x 1) z (i) (fun i => if mkb mm i = 1 then 1 else 0)) (mkF (x 2) (x 18 0)) (cdF (x 2) (x 18 0)) (x 3) (x 4) (x 11 0) (x 12 0) (x 13 0) (x 14 0) (x 15 0) (x 16 0) (x 17 0) (x 18 0) (x 19 0) (x 20 0) (x 21 0) (x 22 0) 0 (y 32 0) (y 33 0) (y 34 0) (y 35 0) (y 36 0) (y 37) (y 38) (y 39)) → va_S A s.heap H locs → lv_has ls 7 [(6, .int (iI (i))), (5, .int (iI (j))), (0, .ref (q 20)), (1, .int (iI (z))), (2, .long (w)), (4, .int (iI (mm)))] → W p l e (rmK 1) s m ([.ref (q 20), .int (iI (z)), .long (w), .int (iI (mm))] : List Value).toArray below meth cd H locs 0 0 Q (F0 m 73 ls []) := by
                  intro k_
                  induction k_ with
                  | zero => intro i H locs ls hi hC _ _ _ _; exact absurd hi (by omega)
                  | succ k_ ih2 =>
                    intro i H locs ls hi hC hP hD hS hl
                    refine lv_iload hx hb d_MO_put_73 (lv_at hl 0 rfl) ?_
                    refine lv_iload hx hb d_MO_put_75 (lv_at hl 1 rfl) ?_
                    refine cx_icmp_ge (tgt := 143) hx hb d_MO_put_77 rfl (by omega) (by omega) (fun h77 => ?_) (fun h77 => ?_)
                    · obtain rfl : j = i := by omega
                      refine lv_aload_n hx hb d_MO_put_143 rfl (lv_at hl 2 rfl) ?_
                      refine va_get (D := D) (ci := 5) (v := .int (iI (0))) (C := R_MO) (T := T_MO) (N := 28) hx hb hT lays_MO hown hK hP 0 rfl rfl 0 (by decide) (hT _ tw_636) (fun _ h9 => h9) rfl d_MO_put_144 ?_
                      refine cx_if_le (tgt := 154) hx hb d_MO_put_147 rfl (by omega) (fun _ => ?_) (fun h0 => absurd h0 (by decide))
                      refine lv_iload hx hb d_MO_put_154 (lv_at hl 1 rfl) ?_
                      exact hret ((up (up x 0 (spa (x 0) z (j) (fun i => bty w i))) 1 (spa (x 1) z (j) (fun i => if mkb mm i = 1 then 1 else 0)), up y 31 (cst 0)) : SX × SX) (⟨by rw [if_neg (by omega), hL], by rw [if_neg (by omega), if_neg (by omega)]; unfold putX; rw [hL], (show okX (up (up x 0 (spa (x 0) z (j) (fun i => bty w i))) 1 (spa (x 1) z (j) (fun i => if mkb mm i = 1 then 1 else 0))) from ⟨hC, (show okR (x 11 0) (x 12 0) (x 13 0) (x 14 0) (x 15 0) (x 16 0) (x 17 0) (x 18 0) (x 19 0) (x 20 0) by have h8 := hX.2.1; unfold okR at h8 ⊢; omega), hX.2.2⟩)⟩) hP hD hS d_MO_put_156
                    · refine lv_aload_n hx hb d_MO_put_80 rfl (lv_at hl 2 rfl) ?_
                      refine va_get (D := D) (ci := 5) (v := .int (iI (0))) (C := R_MO) (T := T_MO) (N := 28) hx hb hT lays_MO hown hK hP 0 rfl rfl 0 (by decide) (hT _ tw_636) (fun _ h9 => h9) rfl d_MO_put_81 ?_
                      refine cx_if_ne (tgt := 143) hx hb d_MO_put_84 rfl (by omega) (fun h0 => absurd h0 (by decide)) (fun _ => ?_)
                      refine lv_aload_n hx hb d_MO_put_87 rfl (lv_at hl 2 rfl) ?_
                      refine va_get (D := D) (ci := 5) (v := .ref (q 21)) (C := R_MO) (T := T_MO) (N := 28) hx hb hT lays_MO hown hK hP 0 rfl rfl 2 (by decide) (hT _ tw_638) (fun _ h9 => h9) rfl d_MO_put_88 ?_
                      refine lv_iload_n hx hb d_MO_put_91 rfl (lv_at hl 3 rfl) ?_
                      refine lv_iload hx hb d_MO_put_92 (lv_at hl 0 rfl) ?_
                      refine cx_iadd hx hb d_MO_put_94 ?_
                      refine lv_lload_n hx hb d_MO_put_95 rfl (lv_at hl 4 rfl) ?_
                      refine cx_bipush hx hb d_MO_put_96 rfl ?_
                      refine cx_bipush hx hb d_MO_put_98 rfl ?_
                      refine lv_iload hx hb d_MO_put_100 (lv_at hl 0 rfl) ?_
                      refine cx_imul hx hb d_MO_put_102 ?_
                      refine cx_isub hx hb d_MO_put_103 ?_
                      refine lv_lshr (v := w >>> ((iI (56 - 8 * i)).toInt64 &&& 63)) hx hb d_MO_put_104 rfl ?_
                      refine lv_ldc2 (v := 63) hx hb hown (hT _ tw_744) d_MO_put_105 ?_
                      refine lv_land hx hb d_MO_put_108 ?_
                      have hb8 := bty_in w i
                      have hb7 := hb9 i (by omega) (by omega)
                      refine lv_l2i (v := iI (bty w i % 64)) hx hb d_MO_put_109 (sh_S63 w (by omega)) ?_
                      refine cx_eq (show iI (bty w i % 64) = iI (bty w i) from by rw [Int.emod_eq_of_lt (by omega) (by omega)]) ?_
                      refine lv_i2b (v := iI (bty w i)) hx hb d_MO_put_110 (i2b_ok (by omega)) ?_
                      refine cx_bast (g := iF (spa (x 0) z (i) (fun i => bty w i))) (g' := iF (fu (spa (x 0) z (i) (fun i => bty w i)) (z + i) (bty w i))) hx hb hK hP hD hS 1 1 rfl rfl (by omega) (by omega) (by omega) (fun j => iF_put j) d_MO_put_111 (fun H locs hP hD hS => ?_)
                      have hP : va_P D vwCl (moW T q n (fu (spa (x 0) z (i) (fun i => bty w i)) (z + i) (bty w i)) (spa (x 1) z (i) (fun i => if mkb mm i = 1 then 1 else 0)) (mkF (x 2) (x 18 0)) (cdF (x 2) (x 18 0)) (x 3) (x 4) (x 11 0) (x 12 0) (x 13 0) (x 14 0) (x 15 0) (x 16 0) (x 17 0) (x 18 0) (x 19 0) (x 20 0) (x 21 0) (x 22 0) 0 (y 32 0) (y 33 0) (y 34 0) (y 35 0) (y 36 0) (y 37) (y 38) (y 39)) H := hP
                      have hD : va_D A (moW T q n (fu (spa (x 0) z (i) (fun i => bty w i)) (z + i) (bty w i)) (spa (x 1) z (i) (fun i => if mkb mm i = 1 then 1 else 0)) (mkF (x 2) (x 18 0)) (cdF (x 2) (x 18 0)) (x 3) (x 4) (x 11 0) (x 12 0) (x 13 0) (x 14 0) (x 15 0) (x 16 0) (x 17 0) (x 18 0) (x 19 0) (x 20 0) (x 21 0) (x 22 0) 0 (y 32 0) (y 33 0) (y 34 0) (y 35 0) (y 36 0) (y 37) (y 38) (y 39)) := hD
                      have hC : okC (fu (spa (x 0) z (i) (fun i => bty w i)) (z + i) (bty w i)) (spa (x 1) z (i) (fun i => if mkb mm i = 1 then 1 else 0)) := okC_fu hC (by omega)
                      refine lv_aload_n hx hb d_MO_put_112 rfl (lv_at hl 2 rfl) ?_
                      refine va_get (D := D) (ci := 5) (v := .ref (q 22)) (C := R_MO) (T := T_MO) (N := 28) hx hb hT lays_MO hown hK hP 0 rfl rfl 3 (by decide) (hT _ tw_639) (fun _ h9 => h9) rfl d_MO_put_113 ?_
                      refine lv_iload_n hx hb d_MO_put_116 rfl (lv_at hl 3 rfl) ?_
                      refine lv_iload hx hb d_MO_put_117 (lv_at hl 0 rfl) ?_
                      refine cx_iadd hx hb d_MO_put_119 ?_
                      refine lv_iload hx hb d_MO_put_120 (lv_at hl 5 rfl) ?_
                      refine lv_iload hx hb d_MO_put_122 (lv_at hl 0 rfl) ?_
                      refine lv_ishr hx hb d_MO_put_124 ?_
                      refine cx_eq (shI_e mm i) ?_
                      refine cx_iconst hx hb d_MO_put_125 ?_
                      refine lv_iand hx hb d_MO_put_126 ?_
                      refine cx_eq (mkb_e mm i) ?_
                      have hmb := mkb_in mm i
                      refine cx_iconst hx hb d_MO_put_127 ?_
                      refine cx_icmp_ne (tgt := 135) hx hb d_MO_put_128 rfl (by omega) (by omega) (fun h128 => ?_) (fun h128 => ?_)
                      · refine cx_iconst hx hb d_MO_put_135 ?_
                        refine cx_zast (g := iF (spa (x 1) z (i) (fun i => if mkb mm i = 1 then 1 else 0))) (g' := iF (fu (spa (x 1) z (i) (fun i => if mkb mm i = 1 then 1 else 0)) (z + i) (0))) hx hb hK hP hD hS 2 2 rfl rfl (by omega) (by omega) (by omega) (fun j => iF_put j) d_MO_put_136 (fun H locs hP hD hS => ?_)
                        have hP : va_P D vwCl (moW T q n (fu (spa (x 0) z (i) (fun i => bty w i)) (z + i) (bty w i)) (fu (spa (x 1) z (i) (fun i => if mkb mm i = 1 then 1 else 0)) (z + i) (0)) (mkF (x 2) (x 18 0)) (cdF (x 2) (x 18 0)) (x 3) (x 4) (x 11 0) (x 12 0) (x 13 0) (x 14 0) (x 15 0) (x 16 0) (x 17 0) (x 18 0) (x 19 0) (x 20 0) (x 21 0) (x 22 0) 0 (y 32 0) (y 33 0) (y 34 0) (y 35 0) (y 36 0) (y 37) (y 38) (y 39)) H := hP
                        have hD : va_D A (moW T q n (fu (spa (x 0) z (i) (fun i => bty w i)) (z + i) (bty w i)) (fu (spa (x 1) z (i) (fun i => if mkb mm i = 1 then 1 else 0)) (z + i) (0)) (mkF (x 2) (x 18 0)) (cdF (x 2) (x 18 0)) (x 3) (x 4) (x 11 0) (x 12 0) (x 13 0) (x 14 0) (x 15 0) (x 16 0) (x 17 0) (x 18 0) (x 19 0) (x 20 0) (x 21 0) (x 22 0) 0 (y 32 0) (y 33 0) (y 34 0) (y 35 0) (y 36 0) (y 37) (y 38) (y 39)) := hD
                        have hC : okC (fu (spa (x 0) z (i) (fun i => bty w i)) (z + i) (bty w i)) (fu (spa (x 1) z (i) (fun i => if mkb mm i = 1 then 1 else 0)) (z + i) (0)) := okC_mk hC (by omega)
                        refine cx_iinc (k := 0) (lv' := [(6, .int (iI (i + 1))), (5, .int (iI (j))), (0, .ref (q 20)), (1, .int (iI (z))), (2, .long (w)), (4, .int (iI (mm)))]) hx hb d_MO_put_137 hl rfl (by decide) rfl (fun ls hl => ?_)
                        refine lv_goto (tgt := 73) hx hb d_MO_put_140 rfl ?_
                        rw [spa_step (F := (fun i => bty w i)) (k2 := i + 1) (by omega) rfl rfl rfl, spa_step (F := (fun i => if mkb mm i = 1 then 1 else 0)) (k2 := i + 1) (by omega) rfl rfl (by show (if mkb mm i = 1 then (1 : Int) else 0) = _; rw [if_neg (by omega)])] at hP hD hC
                        exact ih2 (i + 1) _ _ _ (by omega) hC hP hD hS (lv_sub hl [0, 1, 2, 3, 4, 5] rfl)
                      · refine cx_iconst hx hb d_MO_put_131 ?_
                        refine lv_goto (tgt := 136) hx hb d_MO_put_132 rfl ?_
                        refine cx_zast (g := iF (spa (x 1) z (i) (fun i => if mkb mm i = 1 then 1 else 0))) (g' := iF (fu (spa (x 1) z (i) (fun i => if mkb mm i = 1 then 1 else 0)) (z + i) (1))) hx hb hK hP hD hS 2 2 rfl rfl (by omega) (by omega) (by omega) (fun j => iF_put j) d_MO_put_136 (fun H locs hP hD hS => ?_)
                        have hP : va_P D vwCl (moW T q n (fu (spa (x 0) z (i) (fun i => bty w i)) (z + i) (bty w i)) (fu (spa (x 1) z (i) (fun i => if mkb mm i = 1 then 1 else 0)) (z + i) (1)) (mkF (x 2) (x 18 0)) (cdF (x 2) (x 18 0)) (x 3) (x 4) (x 11 0) (x 12 0) (x 13 0) (x 14 0) (x 15 0) (x 16 0) (x 17 0) (x 18 0) (x 19 0) (x 20 0) (x 21 0) (x 22 0) 0 (y 32 0) (y 33 0) (y 34 0) (y 35 0) (y 36 0) (y 37) (y 38) (y 39)) H := hP
                        have hD : va_D A (moW T q n (fu (spa (x 0) z (i) (fun i => bty w i)) (z + i) (bty w i)) (fu (spa (x 1) z (i) (fun i => if mkb mm i = 1 then 1 else 0)) (z + i) (1)) (mkF (x 2) (x 18 0)) (cdF (x 2) (x 18 0)) (x 3) (x 4) (x 11 0) (x 12 0) (x 13 0) (x 14 0) (x 15 0) (x 16 0) (x 17 0) (x 18 0) (x 19 0) (x 20 0) (x 21 0) (x 22 0) 0 (y 32 0) (y 33 0) (y 34 0) (y 35 0) (y 36 0) (y 37) (y 38) (y 39)) := hD
                        have hC : okC (fu (spa (x 0) z (i) (fun i => bty w i)) (z + i) (bty w i)) (fu (spa (x 1) z (i) (fun i => if mkb mm i = 1 then 1 else 0)) (z + i) (1)) := okC_mk hC (by omega)
                        refine cx_iinc (k := 0) (lv' := [(6, .int (iI (i + 1))), (5, .int (iI (j))), (0, .ref (q 20)), (1, .int (iI (z))), (2, .long (w)), (4, .int (iI (mm)))]) hx hb d_MO_put_137 hl rfl (by decide) rfl (fun ls hl => ?_)
                        refine lv_goto (tgt := 73) hx hb d_MO_put_140 rfl ?_
                        rw [spa_step (F := (fun i => bty w i)) (k2 := i + 1) (by omega) rfl rfl rfl, spa_step (F := (fun i => if mkb mm i = 1 then 1 else 0)) (k2 := i + 1) (by omega) rfl rfl (by show (if mkb mm i = 1 then (1 : Int) else 0) = _; rw [if_pos (by omega)])] at hP hD hC
                        exact ih2 (i + 1) _ _ _ (by omega) hC hP hD hS (lv_sub hl [0, 1, 2, 3, 4, 5] rfl)
                rw [← spa_0 (x 0) z (fun i => bty w i), ← spa_0 (x 1) z (fun i => if mkb mm i = 1 then 1 else 0)] at hP hD
                exact L2 10 0 _ _ _ (by omega) (by rw [spa_0, spa_0]; exact hC) hP hD hS (lv_sub hl [0, 1, 2, 3, 4, 5] rfl)
              · refine cx_iconst hx hb d_MO_put_62 ?_
                refine lv_goto (tgt := 67) hx hb d_MO_put_63 rfl ?_
                refine va_put (D := D) (ci := 5) (v := .int (iI (1))) (ty := .int) (C := R_MO) (T := T_MO) (N := 28) hx hb hT lays_MO t_MO t_MO_ok n_MO hown hK hP hD hS 0 rfl rfl 0 (by decide) (hT _ tw_636) (fun _ h9 => h9) rfl (by decide +kernel) rfl rfl (Nat.le_of_ble_eq_true rfl) d_MO_put_67 (fun H locs hP hD hS => ?_)
                have hP : va_P D vwCl (moW T q n (x 0) (x 1) (mkF (x 2) (x 18 0)) (cdF (x 2) (x 18 0)) (x 3) (x 4) (x 11 0) (x 12 0) (x 13 0) (x 14 0) (x 15 0) (x 16 0) (x 17 0) (x 18 0) (x 19 0) (x 20 0) (x 21 0) (x 22 0) 1 (y 32 0) (y 33 0) (y 34 0) (y 35 0) (y 36 0) (y 37) (y 38) (y 39)) H := hP
                have hD : va_D A (moW T q n (x 0) (x 1) (mkF (x 2) (x 18 0)) (cdF (x 2) (x 18 0)) (x 3) (x 4) (x 11 0) (x 12 0) (x 13 0) (x 14 0) (x 15 0) (x 16 0) (x 17 0) (x 18 0) (x 19 0) (x 20 0) (x 21 0) (x 22 0) 1 (y 32 0) (y 33 0) (y 34 0) (y 35 0) (y 36 0) (y 37) (y 38) (y 39)) := hD
                refine cx_iconst hx hb d_MO_put_70 ?_
                refine lv_istore (lv' := [(6, .int (iI (0))), (5, .int (iI (j))), (0, .ref (q 20)), (1, .int (iI (z))), (2, .long (w)), (4, .int (iI (mm)))]) hx hb d_MO_put_71 hl (by decide) rfl (fun ls hl => ?_)
                refine lv_iload hx hb d_MO_put_73 (lv_at hl 0 rfl) ?_
                refine lv_iload hx hb d_MO_put_75 (lv_at hl 1 rfl) ?_
                refine cx_icmp_ge (tgt := 143) hx hb d_MO_put_77 rfl (by omega) (by omega) (fun h77 => ?_) (fun h77 => ?_)
                · refine lv_aload_n hx hb d_MO_put_143 rfl (lv_at hl 2 rfl) ?_
                  refine va_get (D := D) (ci := 5) (v := .int (iI (1))) (C := R_MO) (T := T_MO) (N := 28) hx hb hT lays_MO hown hK hP 0 rfl rfl 0 (by decide) (hT _ tw_636) (fun _ h9 => h9) rfl d_MO_put_144 ?_
                  refine cx_if_le (tgt := 154) hx hb d_MO_put_147 rfl (by omega) (fun h0 => absurd h0 (by decide)) (fun _ => ?_)
                  refine cx_iconst hx hb d_MO_put_150 ?_
                  refine lv_goto (tgt := 156) hx hb d_MO_put_151 rfl ?_
                  exact hret ((x, up y 31 (cst 1)) : SX × SX) (⟨by rw [if_pos (by omega)], by rw [if_pos (by omega), if_pos (by omega)], hX⟩) hP hD hS d_MO_put_156
                · refine lv_aload_n hx hb d_MO_put_80 rfl (lv_at hl 2 rfl) ?_
                  refine va_get (D := D) (ci := 5) (v := .int (iI (1))) (C := R_MO) (T := T_MO) (N := 28) hx hb hT lays_MO hown hK hP 0 rfl rfl 0 (by decide) (hT _ tw_636) (fun _ h9 => h9) rfl d_MO_put_81 ?_
                  refine cx_if_ne (tgt := 143) hx hb d_MO_put_84 rfl (by omega) (fun _ => ?_) (fun h0 => absurd h0 (by decide))
                  refine lv_aload_n hx hb d_MO_put_143 rfl (lv_at hl 2 rfl) ?_
                  refine va_get (D := D) (ci := 5) (v := .int (iI (1))) (C := R_MO) (T := T_MO) (N := 28) hx hb hT lays_MO hown hK hP 0 rfl rfl 0 (by decide) (hT _ tw_636) (fun _ h9 => h9) rfl d_MO_put_144 ?_
                  refine cx_if_le (tgt := 154) hx hb d_MO_put_147 rfl (by omega) (fun h0 => absurd h0 (by decide)) (fun _ => ?_)
                  refine cx_iconst hx hb d_MO_put_150 ?_
                  refine lv_goto (tgt := 156) hx hb d_MO_put_151 rfl ?_
                  exact hret ((x, up y 31 (cst 1)) : SX × SX) (⟨by rw [if_pos (by omega)], by rw [if_pos (by omega), if_pos (by omega)], hX⟩) hP hD hS d_MO_put_156
            · refine cx_if_eq (tgt := 62) hx hb d_MO_put_48 rfl (by omega) (fun _ => ?_) (fun h0 => absurd h0 (by decide))
              refine cx_iconst hx hb d_MO_put_62 ?_
              refine lv_goto (tgt := 67) hx hb d_MO_put_63 rfl ?_
              refine va_put (D := D) (ci := 5) (v := .int (iI (1))) (ty := .int) (C := R_MO) (T := T_MO) (N := 28) hx hb hT lays_MO t_MO t_MO_ok n_MO hown hK hP hD hS 0 rfl rfl 0 (by decide) (hT _ tw_636) (fun _ h9 => h9) rfl (by decide +kernel) rfl rfl (Nat.le_of_ble_eq_true rfl) d_MO_put_67 (fun H locs hP hD hS => ?_)
              have hP : va_P D vwCl (moW T q n (x 0) (x 1) (mkF (x 2) (x 18 0)) (cdF (x 2) (x 18 0)) (x 3) (x 4) (x 11 0) (x 12 0) (x 13 0) (x 14 0) (x 15 0) (x 16 0) (x 17 0) (x 18 0) (x 19 0) (x 20 0) (x 21 0) (x 22 0) 1 (y 32 0) (y 33 0) (y 34 0) (y 35 0) (y 36 0) (y 37) (y 38) (y 39)) H := hP
              have hD : va_D A (moW T q n (x 0) (x 1) (mkF (x 2) (x 18 0)) (cdF (x 2) (x 18 0)) (x 3) (x 4) (x 11 0) (x 12 0) (x 13 0) (x 14 0) (x 15 0) (x 16 0) (x 17 0) (x 18 0) (x 19 0) (x 20 0) (x 21 0) (x 22 0) 1 (y 32 0) (y 33 0) (y 34 0) (y 35 0) (y 36 0) (y 37) (y 38) (y 39)) := hD
              refine cx_iconst hx hb d_MO_put_70 ?_
              refine lv_istore (lv' := [(6, .int (iI (0))), (5, .int (iI (j))), (0, .ref (q 20)), (1, .int (iI (z))), (2, .long (w)), (4, .int (iI (mm)))]) hx hb d_MO_put_71 hl (by decide) rfl (fun ls hl => ?_)
              refine lv_iload hx hb d_MO_put_73 (lv_at hl 0 rfl) ?_
              refine lv_iload hx hb d_MO_put_75 (lv_at hl 1 rfl) ?_
              refine cx_icmp_ge (tgt := 143) hx hb d_MO_put_77 rfl (by omega) (by omega) (fun h77 => ?_) (fun h77 => ?_)
              · refine lv_aload_n hx hb d_MO_put_143 rfl (lv_at hl 2 rfl) ?_
                refine va_get (D := D) (ci := 5) (v := .int (iI (1))) (C := R_MO) (T := T_MO) (N := 28) hx hb hT lays_MO hown hK hP 0 rfl rfl 0 (by decide) (hT _ tw_636) (fun _ h9 => h9) rfl d_MO_put_144 ?_
                refine cx_if_le (tgt := 154) hx hb d_MO_put_147 rfl (by omega) (fun h0 => absurd h0 (by decide)) (fun _ => ?_)
                refine cx_iconst hx hb d_MO_put_150 ?_
                refine lv_goto (tgt := 156) hx hb d_MO_put_151 rfl ?_
                exact hret ((x, up y 31 (cst 1)) : SX × SX) (⟨by rw [if_pos (by omega)], by rw [if_pos (by omega), if_pos (by omega)], hX⟩) hP hD hS d_MO_put_156
              · refine lv_aload_n hx hb d_MO_put_80 rfl (lv_at hl 2 rfl) ?_
                refine va_get (D := D) (ci := 5) (v := .int (iI (1))) (C := R_MO) (T := T_MO) (N := 28) hx hb hT lays_MO hown hK hP 0 rfl rfl 0 (by decide) (hT _ tw_636) (fun _ h9 => h9) rfl d_MO_put_81 ?_
                refine cx_if_ne (tgt := 143) hx hb d_MO_put_84 rfl (by omega) (fun _ => ?_) (fun h0 => absurd h0 (by decide))
                refine lv_aload_n hx hb d_MO_put_143 rfl (lv_at hl 2 rfl) ?_
                refine va_get (D := D) (ci := 5) (v := .int (iI (1))) (C := R_MO) (T := T_MO) (N := 28) hx hb hT lays_MO hown hK hP 0 rfl rfl 0 (by decide) (hT _ tw_636) (fun _ h9 => h9) rfl d_MO_put_144 ?_
                refine cx_if_le (tgt := 154) hx hb d_MO_put_147 rfl (by omega) (fun h0 => absurd h0 (by decide)) (fun _ => ?_)
                refine cx_iconst hx hb d_MO_put_150 ?_
                refine lv_goto (tgt := 156) hx hb d_MO_put_151 rfl ?_
                exact hret ((x, up y 31 (cst 1)) : SX × SX) (⟨by rw [if_pos (by omega)], by rw [if_pos (by omega), if_pos (by omega)], hX⟩) hP hD hS d_MO_put_156
        · refine cx_iinc (k := 0) (lv' := [(5, .int (iI (j + 1))), (0, .ref (q 20)), (1, .int (iI (z))), (2, .long (w)), (4, .int (iI (mm)))]) hx hb d_MO_put_31 hl rfl (by decide) rfl (fun ls hl => ?_)
          refine lv_goto (tgt := 3) hx hb d_MO_put_34 rfl ?_
          exact ih1 (j + 1) _ _ _ (by omega) (by rw [hf, pcn, if_pos (by omega)]) hP hD hS (lv_sub hl [0, 1, 2, 3, 4] rfl)
  exact L1 9 0 _ _ _ (by omega) rfl hP hD hS (lv_sub hl [0, 1, 2, 3, 4] rfl)
