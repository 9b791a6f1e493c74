/-! the reference: a field's number -/
/-- so many digits from the left, of k digits that f gives units first -/
def nmA (f : Int → Int) (k : Int) : Nat → Int64
  | 0 => 0
  | t + 1 => 10 * nmA f k t + (iI (f (k - 1 - (t : Int)))).toInt64
theorem nmA_s {f : Int → Int} {k j : Int} (h : j ≤ k - 1) : nmA f k (k - 1 - (j + -1)).toNat = 10 * nmA f k (k - 1 - j).toNat + (iI (f j)).toInt64 := by
  rw [show (k - 1 - (j + -1)).toNat = (k - 1 - j).toNat + 1 by omega, nmA, Int.toNat_of_nonneg (by omega), show k - 1 - (k - 1 - j) = j by omega]
def nmT (n z : Int) (x : SX) : Int := if fld n (x 1) z 3000 2001 1 = 0 then 1 else if 18 < fld n (x 1) z 3000 2001 1 then 2 else 0
def nmV (n z : Int) (x : SX) : Int64 := if fld n (x 1) z 3000 2001 1 = 0 ∨ 18 < fld n (x 1) z 3000 2001 1 then 0 else if zn (x 0 z) = 32 then -(nmA (fun i => vl (x 0 (z - i))) (fld n (x 1) z 3000 2001 1) (fld n (x 1) z 3000 2001 1).toNat) else nmA (fun i => vl (x 0 (z - i))) (fld n (x 1) z 3000 2001 1) (fld n (x 1) z 3000 2001 1).toNat

set_option maxHeartbeats 4000000 in
set_option maxRecDepth 100000 in
theorem c_MO_fieldW (l : Launch) (D : va_G) (T : Nat → ClassId) (sz : Nat) (q : Nat → Nat) (n : Nat) (hn : 400 ≤ n ∧ n ≤ 2000) (x y : SX) (hX : okX x) (u most : Int) (hu : -2147483648 ≤ u ∧ u < 2147483648) (hm : 1 ≤ most ∧ most ≤ 3000) : MI l y_MO_field (wY y_MO_field b_MO_field 5 (some .int)) (rmK 1) D vwCl (tyL T) nwL sz [.ref (q 20), .int (iI (u)), .int (iI (most))] (moW T q n (x 0) (x 1) (mkF (x 2) (x 18 0)) (cdF (x 2) (x 18 0)) (x 3) (x 4) (x 11 0) (x 12 0) (x 13 0) (x 14 0) (x 15 0) (x 16 0) (x 17 0) (x 18 0) (x 19 0) (x 20 0) (x 21 0) (x 22 0) (y 31 0) (y 32 0) (y 33 0) (y 34 0) (y 35 0) (y 36 0) (y 37) (y 38) (y 39)) (fun r (_ : Unit) => r = iI (fld n (x 1) u most 2001 1)) (fun _ => moX T q n x y) := by
  refine cx_inI (by decide) rfl (Nat.le_of_ble_eq_true rfl) ?_
  intro p e s m below meth cd ls A Q hx hb hml hT hown hret hP hK hD hN hS hA hl
  have hown : s.vm.findClass R_MO = some m.cls := hown
  have hl : lv_has ls 5 [(0, .ref (q 20)), (1, .int (iI (u))), (2, .int (iI (most)))] := hl
  have hC := hX.1
  have hR0 := hX.2.1
  have hF := hX.2.2
  unfold okR at hR0
  refine cx_iconst hx hb d_MO_field_0 ?_
  refine lv_istore_n (lv' := [(3, .int (iI (0))), (0, .ref (q 20)), (1, .int (iI (u))), (2, .int (iI (most)))]) hx hb d_MO_field_1 rfl hl (by decide) rfl (fun ls hl => ?_)
  refine lv_iload_n hx hb d_MO_field_2 rfl (lv_at hl 3 rfl) ?_
  refine cx_if_le (tgt := 10) hx hb d_MO_field_3 rfl (by omega) (fun h3 => absurd h3 (by omega)) (fun h3 => ?_)
  refine cx_iconst hx hb d_MO_field_6 ?_
  refine lv_goto (tgt := 11) hx hb d_MO_field_7 rfl ?_
  refine lv_istore (lv' := [(4, .int (iI (1))), (3, .int (iI (0))), (0, .ref (q 20)), (1, .int (iI (u))), (2, .int (iI (most)))]) hx hb d_MO_field_11 hl (by decide) rfl (fun ls hl => ?_)
  have L1 : ∀ (k_ : Nat) (j : Int) (H : Heap) (locs : List Loc) (ls : Array Slot), (0 ≤ j ∧ (0 < j → u < n ∧ j ≤ u + 1) ∧ j + k_ = 2001) → (fld n (x 1) u most 2001 1 = fld n (x 1) u most k_ (j + 1)) → (j < most) → va_P D vwCl (moW T q n (x 0) (x 1) (mkF (x 2) (x 18 0)) (cdF (x 2) (x 18 0)) (x 3) (x 4) (x 11 0) (x 12 0) (x 13 0) (x 14 0) (x 15 0) (x 16 0) (x 17 0) (x 18 0) (x 19 0) (x 20 0) (x 21 0) (x 22 0) (y 31 0) (y 32 0) (y 33 0) (y 34 0) (y 35 0) (y 36 0) (y 37) (y 38) (y 39)) H → va_D A (moW T q n (x 0) (x 1) (mkF (x 2) (x 18 0)) (cdF (x 2) (x 18 0)) (x 3) (x 4) (x 11 0) (x 12 0) (x 13 0) (x 14 0) (x 15 0) (x 16 0) (x 17 0) (x 18 0) (x 19 0) (x 20 0) (x 21 0) (x 22 0) (y 31 0) (y 32 0) (y 33 0) (y 34 0) (y 35 0) (y 36 0) (y 37) (y 38) (y 39)) → va_S A s.heap H locs → lv_has ls 5 [(4, .int (iI (1))), (3, .int (iI (j))), (0, .ref (q 20)), (1, .int (iI (u))), (2, .int (iI (most)))] → W p l e (rmK 1) s m ([.ref (q 20), .int (iI (u)), .int (iI (most))] : List Value).toArray below meth cd H locs 0 0 Q (F0 m 13 ls []) := by
    intro k_
    induction k_ with
    | zero => intro j H locs ls hj hf hjm _ _ _ _; exact absurd hj (by omega)
    | succ k_ ih1 =>
      intro j H locs ls hj hf hjm hP hD hS hl
      refine lv_iload hx hb d_MO_field_13 (lv_at hl 0 rfl) ?_
      refine cx_if_eq (tgt := 61) hx hb d_MO_field_15 rfl (by omega) (fun h0 => absurd h0 (by decide)) (fun _ => ?_)
      refine lv_aload_n hx hb d_MO_field_18 rfl (lv_at hl 2 rfl) ?_
      refine lv_iload_n hx hb d_MO_field_19 rfl (lv_at hl 3 rfl) ?_
      refine lv_iload_n hx hb d_MO_field_20 rfl (lv_at hl 1 rfl) ?_
      refine cx_isub hx hb d_MO_field_21 ?_
      refine cx_cI (ws2 := fun _ => moW T q n (x 0) (x 1) (mkF (x 2) (x 18 0)) (cdF (x 2) (x 18 0)) (x 3) (x 4) (x 11 0) (x 12 0) (x 13 0) (x 14 0) (x 15 0) (x 16 0) (x 17 0) (x 18 0) (x 19 0) (x 20 0) (x 21 0) (x 22 0) (y 31 0) (y 32 0) (y 33 0) (y 34 0) (y 35 0) (y 36 0) (y 37) (y 38) (y 39)) (cx_rV (q0 := 0) (ci := 5) (rest := []) (As := [.int (iI (u - j))]) hx hb hml hown hT hK hN hP hD hl.1 tw_731 k_MO_is (c_MO_is l D T H.size q n hn x y hX (u - j) (by omega)) ⟨by decide, by decide⟩ ⟨rfl, rfl⟩ [0, 1, 2, 3, 4, 5, 6, 7, 8, 9] (by decide) rfl rfl rfl rfl rfl (Nat.le_of_ble_eq_true rfl) ⟨Nat.zero_le _, Nat.zero_le _⟩ d_MO_field_22) hP hD hS hA [0, 1, 2, 3, 4, 5, 6, 7, 8, 9] [] [0, 1, 2, 3, 4, 5, 6, 7, 8, 9] rfl (wr := []) rfl (by decide) (by decide) (fun _ => rfl) (by decide) (fun r u_ H locs hq22 hP hD hS => ?_)
      rcases hq22 with ⟨rfl, h22⟩ | ⟨rfl, h22⟩
      · refine cx_if_ne (tgt := 30) hx hb d_MO_field_25 rfl (by omega) (fun _ => ?_) (fun h0 => absurd h0 (by decide))
        refine lv_aload_n hx hb d_MO_field_30 rfl (lv_at hl 2 rfl) ?_
        refine va_get (D := D) (ci := 5) (v := .ref (q 22)) (C := R_MO) (T := T_MO) (N := 28) hx hb hT lays_MO hown hK hP 0 rfl rfl 3 (by decide) (hT _ tw_639) (fun _ h9 => h9) rfl d_MO_field_31 ?_
        refine lv_iload_n hx hb d_MO_field_34 rfl (lv_at hl 3 rfl) ?_
        refine lv_iload_n hx hb d_MO_field_35 rfl (lv_at hl 1 rfl) ?_
        refine cx_isub hx hb d_MO_field_36 ?_
        refine cx_zald (g := iF (x 1)) hx hb hK hP 2 2 rfl rfl (by omega) (by omega) d_MO_field_37 ?_
        have hm37 := hC.2 (u - j)
        refine cx_if_ne (tgt := 52) hx hb d_MO_field_38 rfl (by omega) (fun h38 => ?_) (fun h38 => ?_)
        · refine cx_iconst hx hb d_MO_field_52 ?_
          refine lv_istore (lv' := [(4, .int (iI (0))), (3, .int (iI (j))), (0, .ref (q 20)), (1, .int (iI (u))), (2, .int (iI (most)))]) hx hb d_MO_field_53 hl (by decide) rfl (fun ls hl => ?_)
          refine cx_iinc (k := 1) (lv' := [(3, .int (iI (j + 1))), (4, .int (iI (0))), (0, .ref (q 20)), (1, .int (iI (u))), (2, .int (iI (most)))]) hx hb d_MO_field_55 hl rfl (by decide) rfl (fun ls hl => ?_)
          refine lv_goto (tgt := 13) hx hb d_MO_field_58 rfl ?_
          refine lv_iload hx hb d_MO_field_13 (lv_at hl 1 rfl) ?_
          refine cx_if_eq (tgt := 61) hx hb d_MO_field_15 rfl (by omega) (fun _ => ?_) (fun h0 => absurd h0 (by decide))
          refine lv_iload_n hx hb d_MO_field_61 rfl (lv_at hl 0 rfl) ?_
          exact hret () (by rw [hf, fldM, if_pos (by omega), if_pos (by omega)]) hP hD hS d_MO_field_62
        · refine lv_iload_n hx hb d_MO_field_41 rfl (lv_at hl 1 rfl) ?_
          refine cx_iconst hx hb d_MO_field_42 ?_
          refine cx_iadd hx hb d_MO_field_43 ?_
          refine lv_iload_n hx hb d_MO_field_44 rfl (lv_at hl 4 rfl) ?_
          refine cx_icmp_ge (tgt := 52) hx hb d_MO_field_45 rfl (by omega) (by omega) (fun h45 => ?_) (fun h45 => ?_)
          · refine cx_iconst hx hb d_MO_field_52 ?_
            refine lv_istore (lv' := [(4, .int (iI (0))), (3, .int (iI (j))), (0, .ref (q 20)), (1, .int (iI (u))), (2, .int (iI (most)))]) hx hb d_MO_field_53 hl (by decide) rfl (fun ls hl => ?_)
            refine cx_iinc (k := 1) (lv' := [(3, .int (iI (j + 1))), (4, .int (iI (0))), (0, .ref (q 20)), (1, .int (iI (u))), (2, .int (iI (most)))]) hx hb d_MO_field_55 hl rfl (by decide) rfl (fun ls hl => ?_)
            refine lv_goto (tgt := 13) hx hb d_MO_field_58 rfl ?_
            refine lv_iload hx hb d_MO_field_13 (lv_at hl 1 rfl) ?_
            refine cx_if_eq (tgt := 61) hx hb d_MO_field_15 rfl (by omega) (fun _ => ?_) (fun h0 => absurd h0 (by decide))
            refine lv_iload_n hx hb d_MO_field_61 rfl (lv_at hl 0 rfl) ?_
            exact hret () (by rw [hf, fldM, if_pos (by omega), if_pos (by omega)]) hP hD hS d_MO_field_62
          · refine cx_iconst hx hb d_MO_field_48 ?_
            refine lv_goto (tgt := 53) hx hb d_MO_field_49 rfl ?_
            refine lv_istore (lv' := [(4, .int (iI (1))), (3, .int (iI (j))), (0, .ref (q 20)), (1, .int (iI (u))), (2, .int (iI (most)))]) hx hb d_MO_field_53 hl (by decide) rfl (fun ls hl => ?_)
            refine cx_iinc (k := 1) (lv' := [(3, .int (iI (j + 1))), (4, .int (iI (1))), (0, .ref (q 20)), (1, .int (iI (u))), (2, .int (iI (most)))]) hx hb d_MO_field_55 hl rfl (by decide) rfl (fun ls hl => ?_)
            refine lv_goto (tgt := 13) hx hb d_MO_field_58 rfl ?_
            exact ih1 (j + 1) _ _ _ (by omega) (by rw [hf, fldM, if_pos (by omega), if_neg (by omega)]) (by omega) hP hD hS (lv_sub hl [1, 0, 2, 3, 4] rfl)
      · refine cx_if_ne (tgt := 30) hx hb d_MO_field_25 rfl (by omega) (fun h0 => absurd h0 (by decide)) (fun _ => ?_)
        refine cx_iconst hx hb d_MO_field_28 ?_
        exact hret () (by rw [hf, fldM, if_neg (by omega)]) hP hD hS d_MO_field_29
  exact L1 2001 0 _ _ _ (by omega) rfl (by omega) hP hD hS (lv_sub hl [0, 1, 2, 3, 4] rfl)

set_option maxHeartbeats 4000000 in
set_option maxRecDepth 100000 in
theorem c_MO_number (l : Launch) (D : va_G) (T : Nat → ClassId) (sz : Nat) (q : Nat → Nat) (n : Nat) (hn : 400 ≤ n ∧ n ≤ 2000) (x y : SX) (hX : okX x) (z : Int) (hz : -2147483648 ≤ z ∧ z < 2147483648) : ML l y_MO_number (wY y_MO_number b_MO_number 6 (some .long)) (rmK 2) D vwCl (tyL T) nwL sz [.ref (q 20), .int (iI (z))] (moW T q n (x 0) (x 1) (mkF (x 2) (x 18 0)) (cdF (x 2) (x 18 0)) (x 3) (x 4) (x 11 0) (x 12 0) (x 13 0) (x 14 0) (x 15 0) (x 16 0) (x 17 0) (x 18 0) (x 19 0) (x 20 0) (x 21 0) (x 22 0) (y 31 0) (y 32 0) (y 33 0) (y 34 0) (y 35 0) (y 36 0) (y 37) (y 38) (y 39)) (fun r (u : SX × SX) => r = nmV n z x ∧ u = (x, up y 31 (cst (nmT n z x)))) (fun (u : SX × SX) => moX T q n u.1 u.2) := by
  refine cx_inL (by decide) rfl (Nat.le_of_ble_eq_true rfl) ?_
  intro p e s m below meth cd ls A Q hx hb hml hT hown hret hP hK hD hN hS hA hl
  have hown : s.vm.findClass R_MO = some m.cls := hown
  have hl : lv_has ls 6 [(0, .ref (q 20)), (1, .int (iI (z)))] := hl
  have hC := hX.1
  have hR0 := hX.2.1
  have hF := hX.2.2
  unfold okR at hR0
  refine lv_aload_n hx hb d_MO_number_0 rfl (lv_at hl 0 rfl) ?_
  refine lv_iload_n hx hb d_MO_number_1 rfl (lv_at hl 1 rfl) ?_
  refine cx_sipush hx hb d_MO_number_2 rfl ?_
  refine cx_cI (ws2 := fun _ => moW T q n (x 0) (x 1) (mkF (x 2) (x 18 0)) (cdF (x 2) (x 18 0)) (x 3) (x 4) (x 11 0) (x 12 0) (x 13 0) (x 14 0) (x 15 0) (x 16 0) (x 17 0) (x 18 0) (x 19 0) (x 20 0) (x 21 0) (x 22 0) (y 31 0) (y 32 0) (y 33 0) (y 34 0) (y 35 0) (y 36 0) (y 37) (y 38) (y 39)) (cx_rV (q0 := 0) (ci := 5) (rest := []) (As := [.int (iI (z)), .int (iI (3000))]) hx hb hml hown hT hK hN hP hD hl.1 tw_786 k_MO_field (c_MO_fieldW l D T s.heap.size q n hn x y hX z 3000 (by omega) (by omega)) ⟨by decide, by decide⟩ ⟨rfl, rfl⟩ [0, 1, 2, 3, 4, 5, 6, 7, 8, 9] (by decide) rfl rfl rfl rfl rfl (Nat.le_of_ble_eq_true rfl) ⟨Nat.zero_le _, Nat.zero_le _⟩ d_MO_number_5) hP hD hS hA [0, 1, 2, 3, 4, 5, 6, 7, 8, 9] [] [0, 1, 2, 3, 4, 5, 6, 7, 8, 9] rfl (wr := []) rfl (by decide) (by decide) (fun _ => rfl) (by decide) (fun r u_ H locs hq5 hP hD hS => ?_)
  subst hq5
  refine cx_eq (y := iI (fld n (x 1) z 3000 2001 1)) rfl ?_
  refine lv_istore_n (lv' := [(2, .int (iI (fld n (x 1) z 3000 2001 1))), (0, .ref (q 20)), (1, .int (iI (z)))]) hx hb d_MO_number_8 rfl hl (by decide) rfl (fun ls hl => ?_)
  obtain ⟨k, hk⟩ : ∃ zz, zz = fld n (x 1) z 3000 2001 1 := ⟨_, rfl⟩
  rw [← hk] at hl
  have hk1 := fld_in hk
  refine lv_aload_n hx hb d_MO_number_9 rfl (lv_at hl 1 rfl) ?_
  refine lv_iload_n hx hb d_MO_number_10 rfl (lv_at hl 0 rfl) ?_
  refine cx_if_ne (tgt := 18) hx hb d_MO_number_11 rfl (by omega) (fun h11 => ?_) (fun h11 => ?_)
  · refine lv_iload_n hx hb d_MO_number_18 rfl (lv_at hl 0 rfl) ?_
    refine cx_bipush hx hb d_MO_number_19 rfl ?_
    refine cx_icmp_le (tgt := 28) hx hb d_MO_number_21 rfl (by omega) (by omega) (fun h21 => ?_) (fun h21 => ?_)
    · refine cx_iconst hx hb d_MO_number_28 ?_
      refine va_put (D := D) (ci := 5) (v := .int (iI (0))) (ty := .int) (C := R_MO) (T := T_MO) (N := 28) hx hb hT lays_MO t_MO t_MO_ok n_MO hown hK hP hD hS 0 rfl rfl 0 (by decide) (hT _ tw_636) (fun _ h9 => h9) rfl (by decide +kernel) rfl rfl (Nat.le_of_ble_eq_true rfl) d_MO_number_29 (fun H locs hP hD hS => ?_)
      have hP : va_P D vwCl (moW T q n (x 0) (x 1) (mkF (x 2) (x 18 0)) (cdF (x 2) (x 18 0)) (x 3) (x 4) (x 11 0) (x 12 0) (x 13 0) (x 14 0) (x 15 0) (x 16 0) (x 17 0) (x 18 0) (x 19 0) (x 20 0) (x 21 0) (x 22 0) 0 (y 32 0) (y 33 0) (y 34 0) (y 35 0) (y 36 0) (y 37) (y 38) (y 39)) H := hP
      have hD : va_D A (moW T q n (x 0) (x 1) (mkF (x 2) (x 18 0)) (cdF (x 2) (x 18 0)) (x 3) (x 4) (x 11 0) (x 12 0) (x 13 0) (x 14 0) (x 15 0) (x 16 0) (x 17 0) (x 18 0) (x 19 0) (x 20 0) (x 21 0) (x 22 0) 0 (y 32 0) (y 33 0) (y 34 0) (y 35 0) (y 36 0) (y 37) (y 38) (y 39)) := hD
      refine lv_lconst (v := 0) hx hb d_MO_number_32 rfl ?_
      refine lv_lstore_n (lv' := [(3, .long (0)), (2, .int (iI (k))), (0, .ref (q 20)), (1, .int (iI (z)))]) hx hb d_MO_number_33 rfl hl (by decide) rfl (fun ls hl => ?_)
      refine lv_iload_n hx hb d_MO_number_34 rfl (lv_at hl 1 rfl) ?_
      refine cx_iconst hx hb d_MO_number_35 ?_
      refine cx_isub hx hb d_MO_number_36 ?_
      refine lv_istore (lv' := [(5, .int (iI (k - 1))), (3, .long (0)), (2, .int (iI (k))), (0, .ref (q 20)), (1, .int (iI (z)))]) hx hb d_MO_number_37 hl (by decide) rfl (fun ls hl => ?_)
      have L1 : ∀ (k_ : Nat) (j : Int) (v : Int64) (H : Heap) (locs : List Loc) (ls : Array Slot), (-1 ≤ j ∧ j ≤ k - 1 ∧ j + 1 < k_) → (v = nmA (fun i => vl (x 0 (z - i))) k (k - 1 - j).toNat) → va_P D vwCl (moW T q n (x 0) (x 1) (mkF (x 2) (x 18 0)) (cdF (x 2) (x 18 0)) (x 3) (x 4) (x 11 0) (x 12 0) (x 13 0) (x 14 0) (x 15 0) (x 16 0) (x 17 0) (x 18 0) (x 19 0) (x 20 0) (x 21 0) (x 22 0) 0 (y 32 0) (y 33 0) (y 34 0) (y 35 0) (y 36 0) (y 37) (y 38) (y 39)) H → va_D A (moW T q n (x 0) (x 1) (mkF (x 2) (x 18 0)) (cdF (x 2) (x 18 0)) (x 3) (x 4) (x 11 0) (x 12 0) (x 13 0) (x 14 0) (x 15 0) (x 16 0) (x 17 0) (x 18 0) (x 19 0) (x 20 0) (x 21 0) (x 22 0) 0 (y 32 0) (y 33 0) (y 34 0) (y 35 0) (y 36 0) (y 37) (y 38) (y 39)) → va_S A s.heap H locs → lv_has ls 6 [(5, .int (iI (j))), (3, .long (v)), (2, .int (iI (k))), (0, .ref (q 20)), (1, .int (iI (z)))] → W p l e (rmK 2) s m ([.ref (q 20), .int (iI (z))] : List Value).toArray below meth cd H locs 0 0 Q (F0 m 39 ls []) := by
        intro k_
        induction k_ with
        | zero => intro j v H locs ls hj hv _ _ _ _; exact absurd hj (by omega)
        | succ k_ ih1 =>
          intro j v H locs ls hj hv hP hD hS hl
          refine lv_iload hx hb d_MO_number_39 (lv_at hl 0 rfl) ?_
          refine cx_if_lt (tgt := 77) hx hb d_MO_number_41 rfl (by omega) (fun h41 => ?_) (fun h41 => ?_)
          · have hcz := hC.1 (z)
            have hj9 : j = -1 := by omega
            refine lv_aload_n hx hb d_MO_number_77 rfl (lv_at hl 3 rfl) ?_
            refine va_get (D := D) (ci := 5) (v := .int (iI (0))) (C := R_MO) (T := T_MO) (N := 28) hx hb hT lays_MO hown hK hP 0 rfl rfl 0 (by decide) (hT _ tw_636) (fun _ h9 => h9) rfl d_MO_number_78 ?_
            refine cx_if_le (tgt := 88) hx hb d_MO_number_81 rfl (by omega) (fun _ => ?_) (fun h0 => absurd h0 (by decide))
            refine lv_aload_n hx hb d_MO_number_88 rfl (lv_at hl 3 rfl) ?_
            refine va_get (D := D) (ci := 5) (v := .ref (q 21)) (C := R_MO) (T := T_MO) (N := 28) hx hb hT lays_MO hown hK hP 0 rfl rfl 2 (by decide) (hT _ tw_638) (fun _ h9 => h9) rfl d_MO_number_89 ?_
            refine lv_iload_n hx hb d_MO_number_92 rfl (lv_at hl 4 rfl) ?_
            refine cx_bald (g := iF (x 0)) hx hb hK hP 1 1 rfl rfl (by omega) (by omega) d_MO_number_93 ?_
            have hc93 := hC.1 (z)
            refine cx_cI (ws2 := fun _ => moW T q n (x 0) (x 1) (mkF (x 2) (x 18 0)) (cdF (x 2) (x 18 0)) (x 3) (x 4) (x 11 0) (x 12 0) (x 13 0) (x 14 0) (x 15 0) (x 16 0) (x 17 0) (x 18 0) (x 19 0) (x 20 0) (x 21 0) (x 22 0) 0 (y 32 0) (y 33 0) (y 34 0) (y 35 0) (y 36 0) (y 37) (y 38) (y 39)) (cx_rS (rest := []) (As := [.int (iI ((x 0) (z)))]) hx hb hml hown hT hK hN hP hD hl.1 tw_790 k_MO_isMinus (c_MO_isMinus l D T H.size ((x 0) (z)) (by omega)) ⟨by decide, by decide⟩ ⟨rfl, rfl⟩ [] (by decide) rfl rfl rfl (Nat.le_of_ble_eq_true rfl) ⟨Nat.zero_le _, Nat.zero_le _⟩ d_MO_number_94) hP hD hS hA [] [0, 1, 2, 3, 4, 5, 6, 7, 8, 9] [0, 1, 2, 3, 4, 5, 6, 7, 8, 9] rfl (wr := [(q 20, .inr (5, [.int (iI (0)), .int (iI ((n : Int))), .ref (q 21), .ref (q 22), .int (iI (x 11 0)), .int (iI (x 12 0)), .int (iI (x 13 0)), .int (iI (x 14 0)), .int (iI (x 15 0)), .int (iI (x 16 0)), .int (iI (x 21 0)), .int (iI (x 22 0)), .int (iI (y 32 0)), .int (iI (y 33 0)), .int (iI (y 34 0)), .int (iI (y 35 0)), .int (iI (y 36 0)), .ref (q 23), .int (iI (x 18 0)), .int (iI (x 17 0)), .ref (q 24), .int (iI (x 19 0)), .ref (q 25), .int (iI (x 20 0)), .ref (q 26), .ref (q 27), .ref (q 28), .ref (q 29)])), (q 21, .inl (T 1, 2000, .inl (fun jj : Nat => (iF (x 0)) (jj : Int)))), (q 22, .inl (T 2, 2000, .inl (fun jj : Nat => (iF (x 1)) (jj : Int)))), (q 23, .inl (T 1, 80, .inl (fun jj : Nat => (iF (mkF (x 2) (x 18 0))) (jj : Int)))), (q 24, .inl (T 1, 1600, .inl (fun jj : Nat => (iF (cdF (x 2) (x 18 0))) (jj : Int)))), (q 25, .inl (T 1, 5280, .inl (fun jj : Nat => (iF (x 3)) (jj : Int)))), (q 26, .inl (T 1, 1600, .inl (fun jj : Nat => (iF (x 4)) (jj : Int)))), (q 27, .inl (T 0, 2000, .inl (fun jj : Nat => (iF (y 37)) (jj : Int)))), (q 28, .inl (T 0, 2000, .inl (fun jj : Nat => (iF (y 38)) (jj : Int)))), (q 29, .inl (T 1, 2000, .inl (fun jj : Nat => (iF (y 39)) (jj : Int))))]) rfl (by decide) (by decide) (fun _ => rfl) (by decide) (fun r u_ H locs hq94 hP hD hS => ?_)
            rcases hq94 with ⟨rfl, h94⟩ | ⟨rfl, h94⟩
            · refine cx_if_eq (tgt := 105) hx hb d_MO_number_97 rfl (by omega) (fun h0 => absurd h0 (by decide)) (fun _ => ?_)
              refine lv_lload_n hx hb d_MO_number_100 rfl (lv_at hl 1 rfl) ?_
              refine lv_lneg hx hb d_MO_number_101 ?_
              refine lv_goto (tgt := 106) hx hb d_MO_number_102 rfl ?_
              exact hret ((x, up y 31 (cst 0)) : SX × SX) (⟨by unfold nmV; rw [← hk, if_neg (by omega), if_pos h94, hv, hj9, show k - 1 - -1 = k by omega], by unfold nmT; rw [← hk, if_neg (by omega), if_neg (by omega)]⟩) hP hD hS d_MO_number_106
            · refine cx_if_eq (tgt := 105) hx hb d_MO_number_97 rfl (by omega) (fun _ => ?_) (fun h0 => absurd h0 (by decide))
              refine lv_lload_n hx hb d_MO_number_105 rfl (lv_at hl 1 rfl) ?_
              exact hret ((x, up y 31 (cst 0)) : SX × SX) (⟨by unfold nmV; rw [← hk, if_neg (by omega), if_neg h94, hv, hj9, show k - 1 - -1 = k by omega], by unfold nmT; rw [← hk, if_neg (by omega), if_neg (by omega)]⟩) hP hD hS d_MO_number_106
          · refine lv_aload_n hx hb d_MO_number_44 rfl (lv_at hl 3 rfl) ?_
            refine va_get (D := D) (ci := 5) (v := .int (iI (0))) (C := R_MO) (T := T_MO) (N := 28) hx hb hT lays_MO hown hK hP 0 rfl rfl 0 (by decide) (hT _ tw_636) (fun _ h9 => h9) rfl d_MO_number_45 ?_
            refine cx_if_ne (tgt := 77) hx hb d_MO_number_48 rfl (by omega) (fun h0 => absurd h0 (by decide)) (fun _ => ?_)
            refine lv_ldc2 (v := 10) hx hb hown (hT _ tw_914) d_MO_number_51 ?_
            refine lv_lload_n hx hb d_MO_number_54 rfl (lv_at hl 1 rfl) ?_
            refine lv_lmul hx hb d_MO_number_55 ?_
            refine lv_aload_n hx hb d_MO_number_56 rfl (lv_at hl 3 rfl) ?_
            refine va_get (D := D) (ci := 5) (v := .ref (q 21)) (C := R_MO) (T := T_MO) (N := 28) hx hb hT lays_MO hown hK hP 0 rfl rfl 2 (by decide) (hT _ tw_638) (fun _ h9 => h9) rfl d_MO_number_57 ?_
            refine lv_iload_n hx hb d_MO_number_60 rfl (lv_at hl 4 rfl) ?_
            refine lv_iload hx hb d_MO_number_61 (lv_at hl 0 rfl) ?_
            refine cx_isub hx hb d_MO_number_63 ?_
            refine cx_bald (g := iF (x 0)) hx hb hK hP 1 1 rfl rfl (by omega) (by omega) d_MO_number_64 ?_
            have hc64 := hC.1 (z - j)
            refine cx_cI (ws2 := fun _ => moW T q n (x 0) (x 1) (mkF (x 2) (x 18 0)) (cdF (x 2) (x 18 0)) (x 3) (x 4) (x 11 0) (x 12 0) (x 13 0) (x 14 0) (x 15 0) (x 16 0) (x 17 0) (x 18 0) (x 19 0) (x 20 0) (x 21 0) (x 22 0) 0 (y 32 0) (y 33 0) (y 34 0) (y 35 0) (y 36 0) (y 37) (y 38) (y 39)) (cx_rS (rest := [.long (((10 : Int64)) * v)]) (As := [.int (iI ((x 0) (z - j)))]) hx hb hml hown hT hK hN hP hD hl.1 tw_775 k_MO_value (c_MO_value l D T H.size ((x 0) (z - j)) (by omega)) ⟨by decide, by decide⟩ ⟨rfl, rfl⟩ [] (by decide) rfl rfl rfl (Nat.le_of_ble_eq_true rfl) ⟨Nat.zero_le _, Nat.zero_le _⟩ d_MO_number_65) hP hD hS hA [] [0, 1, 2, 3, 4, 5, 6, 7, 8, 9] [0, 1, 2, 3, 4, 5, 6, 7, 8, 9] rfl (wr := [(q 20, .inr (5, [.int (iI (0)), .int (iI ((n : Int))), .ref (q 21), .ref (q 22), .int (iI (x 11 0)), .int (iI (x 12 0)), .int (iI (x 13 0)), .int (iI (x 14 0)), .int (iI (x 15 0)), .int (iI (x 16 0)), .int (iI (x 21 0)), .int (iI (x 22 0)), .int (iI (y 32 0)), .int (iI (y 33 0)), .int (iI (y 34 0)), .int (iI (y 35 0)), .int (iI (y 36 0)), .ref (q 23), .int (iI (x 18 0)), .int (iI (x 17 0)), .ref (q 24), .int (iI (x 19 0)), .ref (q 25), .int (iI (x 20 0)), .ref (q 26), .ref (q 27), .ref (q 28), .ref (q 29)])), (q 21, .inl (T 1, 2000, .inl (fun jj : Nat => (iF (x 0)) (jj : Int)))), (q 22, .inl (T 2, 2000, .inl (fun jj : Nat => (iF (x 1)) (jj : Int)))), (q 23, .inl (T 1, 80, .inl (fun jj : Nat => (iF (mkF (x 2) (x 18 0))) (jj : Int)))), (q 24, .inl (T 1, 1600, .inl (fun jj : Nat => (iF (cdF (x 2) (x 18 0))) (jj : Int)))), (q 25, .inl (T 1, 5280, .inl (fun jj : Nat => (iF (x 3)) (jj : Int)))), (q 26, .inl (T 1, 1600, .inl (fun jj : Nat => (iF (x 4)) (jj : Int)))), (q 27, .inl (T 0, 2000, .inl (fun jj : Nat => (iF (y 37)) (jj : Int)))), (q 28, .inl (T 0, 2000, .inl (fun jj : Nat => (iF (y 38)) (jj : Int)))), (q 29, .inl (T 1, 2000, .inl (fun jj : Nat => (iF (y 39)) (jj : Int))))]) rfl (by decide) (by decide) (fun _ => rfl) (by decide) (fun r u_ H locs hq65 hP hD hS => ?_)
            subst hq65
            refine lv_i2l (v := (iI (vl ((x 0) (z - j)))).toInt64) hx hb d_MO_number_68 rfl ?_
            refine lv_ladd hx hb d_MO_number_69 ?_
            refine lv_lstore_n (lv' := [(3, .long ((((10 : Int64)) * v) + ((iI (vl ((x 0) (z - j)))).toInt64))), (5, .int (iI (j))), (2, .int (iI (k))), (0, .ref (q 20)), (1, .int (iI (z)))]) hx hb d_MO_number_70 rfl hl (by decide) rfl (fun ls hl => ?_)
            refine cx_iinc (k := 1) (lv' := [(5, .int (iI (j + (-1)))), (3, .long ((((10 : Int64)) * v) + ((iI (vl ((x 0) (z - j)))).toInt64))), (2, .int (iI (k))), (0, .ref (q 20)), (1, .int (iI (z)))]) hx hb d_MO_number_71 hl rfl (by decide) rfl (fun ls hl => ?_)
            refine lv_goto (tgt := 39) hx hb d_MO_number_74 rfl ?_
            exact ih1 (j + (-1)) ((((10 : Int64)) * v) + ((iI (vl ((x 0) (z - j)))).toInt64)) _ _ _ (by omega) (by rw [nmA_s (by omega), ← hv]) hP hD hS (lv_sub hl [0, 1, 2, 3, 4] rfl)
      exact L1 20 (k - 1) 0 _ _ _ (by omega) (by rw [Int.sub_self]; rfl) hP hD hS (lv_sub hl [0, 1, 2, 3, 4] rfl)
    · refine cx_iconst hx hb d_MO_number_24 ?_
      refine lv_goto (tgt := 29) hx hb d_MO_number_25 rfl ?_
      refine va_put (D := D) (ci := 5) (v := .int (iI (2))) (ty := .int) (C := R_MO) (T := T_MO) (N := 28) hx hb hT lays_MO t_MO t_MO_ok n_MO hown hK hP hD hS 0 rfl rfl 0 (by decide) (hT _ tw_636) (fun _ h9 => h9) rfl (by decide +kernel) rfl rfl (Nat.le_of_ble_eq_true rfl) d_MO_number_29 (fun H locs hP hD hS => ?_)
      have hP : va_P D vwCl (moW T q n (x 0) (x 1) (mkF (x 2) (x 18 0)) (cdF (x 2) (x 18 0)) (x 3) (x 4) (x 11 0) (x 12 0) (x 13 0) (x 14 0) (x 15 0) (x 16 0) (x 17 0) (x 18 0) (x 19 0) (x 20 0) (x 21 0) (x 22 0) 2 (y 32 0) (y 33 0) (y 34 0) (y 35 0) (y 36 0) (y 37) (y 38) (y 39)) H := hP
      have hD : va_D A (moW T q n (x 0) (x 1) (mkF (x 2) (x 18 0)) (cdF (x 2) (x 18 0)) (x 3) (x 4) (x 11 0) (x 12 0) (x 13 0) (x 14 0) (x 15 0) (x 16 0) (x 17 0) (x 18 0) (x 19 0) (x 20 0) (x 21 0) (x 22 0) 2 (y 32 0) (y 33 0) (y 34 0) (y 35 0) (y 36 0) (y 37) (y 38) (y 39)) := hD
      refine lv_lconst (v := 0) hx hb d_MO_number_32 rfl ?_
      refine lv_lstore_n (lv' := [(3, .long (0)), (2, .int (iI (k))), (0, .ref (q 20)), (1, .int (iI (z)))]) hx hb d_MO_number_33 rfl hl (by decide) rfl (fun ls hl => ?_)
      refine lv_iload_n hx hb d_MO_number_34 rfl (lv_at hl 1 rfl) ?_
      refine cx_iconst hx hb d_MO_number_35 ?_
      refine cx_isub hx hb d_MO_number_36 ?_
      refine lv_istore (lv' := [(5, .int (iI (k - 1))), (3, .long (0)), (2, .int (iI (k))), (0, .ref (q 20)), (1, .int (iI (z)))]) hx hb d_MO_number_37 hl (by decide) rfl (fun ls hl => ?_)
      refine lv_iload hx hb d_MO_number_39 (lv_at hl 0 rfl) ?_
      refine cx_if_lt (tgt := 77) hx hb d_MO_number_41 rfl (by omega) (fun h41 => absurd h41 (by omega)) (fun h41 => ?_)
      refine lv_aload_n hx hb d_MO_number_44 rfl (lv_at hl 3 rfl) ?_
      refine va_get (D := D) (ci := 5) (v := .int (iI (2))) (C := R_MO) (T := T_MO) (N := 28) hx hb hT lays_MO hown hK hP 0 rfl rfl 0 (by decide) (hT _ tw_636) (fun _ h9 => h9) rfl d_MO_number_45 ?_
      refine cx_if_ne (tgt := 77) hx hb d_MO_number_48 rfl (by omega) (fun _ => ?_) (fun h0 => absurd h0 (by decide))
      refine lv_aload_n hx hb d_MO_number_77 rfl (lv_at hl 3 rfl) ?_
      refine va_get (D := D) (ci := 5) (v := .int (iI (2))) (C := R_MO) (T := T_MO) (N := 28) hx hb hT lays_MO hown hK hP 0 rfl rfl 0 (by decide) (hT _ tw_636) (fun _ h9 => h9) rfl d_MO_number_78 ?_
      refine cx_if_le (tgt := 88) hx hb d_MO_number_81 rfl (by omega) (fun h0 => absurd h0 (by decide)) (fun _ => ?_)
      refine lv_lconst (v := 0) hx hb d_MO_number_84 rfl ?_
      refine lv_goto (tgt := 106) hx hb d_MO_number_85 rfl ?_
      exact hret ((x, up y 31 (cst 2)) : SX × SX) (⟨by unfold nmV; rw [← hk, if_pos (by omega)], by unfold nmT; rw [← hk, if_neg (by omega), if_pos (by omega)]⟩) hP hD hS d_MO_number_106
  · refine cx_iconst hx hb d_MO_number_14 ?_
    refine lv_goto (tgt := 29) hx hb d_MO_number_15 rfl ?_
    refine va_put (D := D) (ci := 5) (v := .int (iI (1))) (ty := .int) (C := R_MO) (T := T_MO) (N := 28) hx hb hT lays_MO t_MO t_MO_ok n_MO hown hK hP hD hS 0 rfl rfl 0 (by decide) (hT _ tw_636) (fun _ h9 => h9) rfl (by decide +kernel) rfl rfl (Nat.le_of_ble_eq_true rfl) d_MO_number_29 (fun H locs hP hD hS => ?_)
    have hP : va_P D vwCl (moW T q n (x 0) (x 1) (mkF (x 2) (x 18 0)) (cdF (x 2) (x 18 0)) (x 3) (x 4) (x 11 0) (x 12 0) (x 13 0) (x 14 0) (x 15 0) (x 16 0) (x 17 0) (x 18 0) (x 19 0) (x 20 0) (x 21 0) (x 22 0) 1 (y 32 0) (y 33 0) (y 34 0) (y 35 0) (y 36 0) (y 37) (y 38) (y 39)) H := hP
    have hD : va_D A (moW T q n (x 0) (x 1) (mkF (x 2) (x 18 0)) (cdF (x 2) (x 18 0)) (x 3) (x 4) (x 11 0) (x 12 0) (x 13 0) (x 14 0) (x 15 0) (x 16 0) (x 17 0) (x 18 0) (x 19 0) (x 20 0) (x 21 0) (x 22 0) 1 (y 32 0) (y 33 0) (y 34 0) (y 35 0) (y 36 0) (y 37) (y 38) (y 39)) := hD
    refine lv_lconst (v := 0) hx hb d_MO_number_32 rfl ?_
    refine lv_lstore_n (lv' := [(3, .long (0)), (2, .int (iI (k))), (0, .ref (q 20)), (1, .int (iI (z)))]) hx hb d_MO_number_33 rfl hl (by decide) rfl (fun ls hl => ?_)
    refine lv_iload_n hx hb d_MO_number_34 rfl (lv_at hl 1 rfl) ?_
    refine cx_iconst hx hb d_MO_number_35 ?_
    refine cx_isub hx hb d_MO_number_36 ?_
    refine lv_istore (lv' := [(5, .int (iI (k - 1))), (3, .long (0)), (2, .int (iI (k))), (0, .ref (q 20)), (1, .int (iI (z)))]) hx hb d_MO_number_37 hl (by decide) rfl (fun ls hl => ?_)
    refine lv_iload hx hb d_MO_number_39 (lv_at hl 0 rfl) ?_
    refine cx_if_lt (tgt := 77) hx hb d_MO_number_41 rfl (by omega) (fun h41 => ?_) (fun h41 => absurd h41 (by omega))
    refine lv_aload_n hx hb d_MO_number_77 rfl (lv_at hl 3 rfl) ?_
    refine va_get (D := D) (ci := 5) (v := .int (iI (1))) (C := R_MO) (T := T_MO) (N := 28) hx hb hT lays_MO hown hK hP 0 rfl rfl 0 (by decide) (hT _ tw_636) (fun _ h9 => h9) rfl d_MO_number_78 ?_
    refine cx_if_le (tgt := 88) hx hb d_MO_number_81 rfl (by omega) (fun h0 => absurd h0 (by decide)) (fun _ => ?_)
    refine lv_lconst (v := 0) hx hb d_MO_number_84 rfl ?_
    refine lv_goto (tgt := 106) hx hb d_MO_number_85 rfl ?_
    exact hret ((x, up y 31 (cst 1)) : SX × SX) (⟨by unfold nmV; rw [← hk, if_pos (by omega)], by unfold nmT; rw [← hk, if_pos (by omega)]⟩) hP hD hS d_MO_number_106
