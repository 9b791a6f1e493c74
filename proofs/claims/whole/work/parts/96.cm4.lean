/-! CharMachine: number -/

set_option maxHeartbeats 4000000 in
set_option maxRecDepth 100000 in
theorem c_CM_number (l : Launch) (D : va_G) (T : Nat → ClassId) (sz : Nat) (q : Nat → Nat) (n : Nat) (hn : 400 ≤ n ∧ n ≤ 2000) (d : Int → Int) (x : SX) (hX : okX x) (hlt : l.stackTraces = false) (z : Int) (hz : -2147483648 ≤ z ∧ z < 2147483648) : vx_Met l y_CM_number (wY y_CM_number b_CM_number 6 (some .long)) (rmX 6) (va_Pc [.ref (q 0), .int (iI (z))] (cx_BX D vwCl (tyL T) nwL sz (cmW T q n d (x 0) (x 1) (x 2) (x 3) (x 4) (x 11 0) (x 12 0) (x 13 0) (x 14 0) (x 15 0) (x 16 0) (x 17 0) (x 18 0) (x 19 0) (x 20 0) (x 21 0) (x 22 0)))) (cxL D vwCl (fun r (_ : Unit) => r = nmV n z x ∧ nmT n z x = 0) (fun _ => cmX T q n d x) (va_A (cmW T q n d (x 0) (x 1) (x 2) (x 3) (x 4) (x 11 0) (x 12 0) (x 13 0) (x 14 0) (x 15 0) (x 16 0) (x 17 0) (x 18 0) (x 19 0) (x 20 0) (x 21 0) (x 22 0)) sz)) (cxX D vwCl (cmW T q n d (x 0) (x 1) (x 2) (x 3) (x 4) (x 11 0) (x 12 0) (x 13 0) (x 14 0) (x 15 0) (x 16 0) (x 17 0) (x 18 0) (x 19 0) (x 20 0) (x 21 0) (x 22 0)) (fun E => (E = xIO ∧ nmT n z x = 1) ∨ (E = xUO ∧ nmT n z x = 2)) (va_A (cmW T q n d (x 0) (x 1) (x 2) (x 3) (x 4) (x 11 0) (x 12 0) (x 13 0) (x 14 0) (x 15 0) (x 16 0) (x 17 0) (x 18 0) (x 19 0) (x 20 0) (x 21 0) (x 22 0)) sz)) 1 6 (va_A (cmW T q n d (x 0) (x 1) (x 2) (x 3) (x 4) (x 11 0) (x 12 0) (x 13 0) (x 14 0) (x 15 0) (x 16 0) (x 17 0) (x 18 0) (x 19 0) (x 20 0) (x 21 0) (x 22 0)) sz) := by
  refine cx_inXL hlt (by decide) rfl rfl (Nat.le_of_ble_eq_true rfl) (by decide) ?_
  intro p e s m below meth cd ls A Q hx hb hml hT hown hret hthr hP hK hD hN hS hA hl
  have hown : s.vm.findClass R_CM = some m.cls := hown
  have hl : lv_has ls 6 [(0, .ref (q 0)), (1, .int (iI (z)))] := hl
  have hC := hX.1
  have hR0 := hX.2.1
  have hF := hX.2.2
  unfold okR at hR0
  refine lv_aload_n hx hb d_CM_number_0 rfl (lv_at hl 0 rfl) ?_
  refine va_get (D := D) (ci := 4) (v := .ref (q 1)) (C := R_CM) (T := T_CM) (N := 7) hx hb hT lays_CM hown hK hP 0 rfl rfl 0 (by decide) (hT _ tw_121) (fun _ h9 => h9) rfl d_CM_number_1 ?_
  refine lv_iload_n hx hb d_CM_number_4 rfl (lv_at hl 1 rfl) ?_
  refine cx_cI (ws2 := fun _ => cmW T q n d (x 0) (x 1) (x 2) (x 3) (x 4) (x 11 0) (x 12 0) (x 13 0) (x 14 0) (x 15 0) (x 16 0) (x 17 0) (x 18 0) (x 19 0) (x 20 0) (x 21 0) (x 22 0)) (cx_rV (q0 := 10) (ci := 3) (rest := []) (As := [.int (iI (z))]) hx hb hml hown hT hK hN hP hD hl.1 tw_611 k_ST_fieldLength1 (c_ST_fieldLength1 l D T s.heap.size q n (x 0) (x 1) hn hC z (by omega)) ⟨by decide, by decide⟩ ⟨rfl, rfl⟩ [10, 11] (by decide) rfl rfl rfl rfl rfl (Nat.le_of_ble_eq_true rfl) ⟨Nat.zero_le _, Nat.zero_le _⟩ d_CM_number_5) hP hD hS hA [10, 11] [0, 1, 2, 3, 4, 5, 6, 7, 8, 9] [0, 1, 2, 3, 4, 5, 6, 7, 8, 9, 10, 11] rfl (wr := [(q 0, .inr (4, [.ref (q 1), .ref (q 3), .ref (q 5), .ref (q 7), .ref (q 9), .int (iI (x 21 0)), .int (iI (x 22 0))])), (q 9, .inr (2, [.ref (q 1), .ref (q 3), .ref (q 5), .ref (q 7), .ref (q 10), .int (iI (x 11 0)), .int (iI (x 12 0)), .int (iI (x 13 0)), .int (iI (x 14 0)), .int (iI (x 15 0)), .int (iI (x 16 0)), .int (iI (x 17 0))])), (q 3, .inr (1, [.int (iI (20)), .int (iI (80)), .ref (q 4), .int (iI (x 18 0))])), (q 4, .inl (T 0, 1680, .inl (fun jj : Nat => (iF (x 2)) (jj : Int)))), (q 5, .inr (1, [.int (iI (40)), .int (iI (132)), .ref (q 6), .int (iI (x 19 0))])), (q 6, .inl (T 0, 5412, .inl (fun jj : Nat => (iF (x 3)) (jj : Int)))), (q 7, .inr (1, [.int (iI (20)), .int (iI (80)), .ref (q 8), .int (iI (x 20 0))])), (q 8, .inl (T 0, 1680, .inl (fun jj : Nat => (iF (x 4)) (jj : Int)))), (q 10, .inr (0, [.ref (q 1), .ref (q 11)])), (q 11, .inl (T 0, n, .inl (fun jj : Nat => (iF d) (jj : Int))))]) rfl (by decide) (by decide) (fun _ => rfl) (by decide) (fun r u_ H locs hq5 hP hD hS => ?_)
  subst hq5
  refine lv_istore_n (lv' := [(2, .int (iI (flr (fld n (x 1) z (n + 1) 2001 1)))), (0, .ref (q 0)), (1, .int (iI (z)))]) hx hb d_CM_number_8 rfl hl (by decide) rfl (fun ls hl => ?_)
  rw [← fld_3000 (n := (n : Int)) (mk := x 1) (u := z) (by omega)] at hl
  obtain ⟨k, hk⟩ : ∃ zz, zz = fld n (x 1) z 3000 2001 1 := ⟨_, rfl⟩
  rw [← hk] at hl
  have hk1 := fld_in hk
  by_cases hk0 : k = 0
  · rw [(flr_in k (by omega)).1 hk0] at hl
    refine lv_iload_n hx hb d_CM_number_9 rfl (lv_at hl 0 rfl) ?_
    refine cx_iconst hx hb d_CM_number_10 ?_
    refine cx_icmp_ne (tgt := 22) hx hb d_CM_number_11 rfl (by omega) (by omega) (fun h0 => absurd h0 (by decide)) (fun _ => ?_)
    exact hthr xw_IO (Or.inl ⟨rfl, by unfold nmT; rw [← hk, if_pos hk0]⟩) hl.1 d_CM_number_14 d_CM_number_17 d_CM_number_18 d_CM_number_21 hP hD hS
  · rw [(flr_in k (by omega)).2 hk0] at hl
    refine lv_iload_n hx hb d_CM_number_9 rfl (lv_at hl 0 rfl) ?_
    refine cx_iconst hx hb d_CM_number_10 ?_
    refine cx_icmp_ne (tgt := 22) hx hb d_CM_number_11 rfl (by omega) (by omega) (fun h11 => ?_) (fun h11 => absurd h11 (by omega))
    refine lv_iload_n hx hb d_CM_number_22 rfl (lv_at hl 0 rfl) ?_
    refine cx_bipush hx hb d_CM_number_23 rfl ?_
    refine cx_icmp_le (tgt := 36) hx hb d_CM_number_25 rfl (by omega) (by omega) (fun h25 => ?_) (fun h25 => ?_)
    · refine lv_lconst (v := 0) hx hb d_CM_number_36 rfl ?_
      refine lv_lstore_n (lv' := [(3, .long (0)), (2, .int (iI (k))), (0, .ref (q 0)), (1, .int (iI (z)))]) hx hb d_CM_number_37 rfl hl (by decide) rfl (fun ls hl => ?_)
      refine lv_iload_n hx hb d_CM_number_38 rfl (lv_at hl 1 rfl) ?_
      refine cx_iconst hx hb d_CM_number_39 ?_
      refine cx_isub hx hb d_CM_number_40 ?_
      refine lv_istore (lv' := [(5, .int (iI (k - 1))), (3, .long (0)), (2, .int (iI (k))), (0, .ref (q 0)), (1, .int (iI (z)))]) hx hb d_CM_number_41 hl (by decide) rfl (fun ls hl => ?_)
      have L1 : ∀ (k_ : Nat) (j : Int) (v : Int64) (H : Heap) (locs : List Loc) (ls : Array Slot), (-1 ≤ j ∧ j ≤ k - 1 ∧ j + 1 < k_) → (v = nmA (fun i => vl (x 0 (z - i))) k (k - 1 - j).toNat) → va_P D vwCl (cmW T q n d (x 0) (x 1) (x 2) (x 3) (x 4) (x 11 0) (x 12 0) (x 13 0) (x 14 0) (x 15 0) (x 16 0) (x 17 0) (x 18 0) (x 19 0) (x 20 0) (x 21 0) (x 22 0)) H → va_D A (cmW T q n d (x 0) (x 1) (x 2) (x 3) (x 4) (x 11 0) (x 12 0) (x 13 0) (x 14 0) (x 15 0) (x 16 0) (x 17 0) (x 18 0) (x 19 0) (x 20 0) (x 21 0) (x 22 0)) → va_S A s.heap H locs → lv_has ls 6 [(5, .int (iI (j))), (3, .long (v)), (2, .int (iI (k))), (0, .ref (q 0)), (1, .int (iI (z)))] → W p l e (rmX 6) s m ([.ref (q 0), .int (iI (z))] : List Value).toArray below meth cd H locs 0 0 Q (F0 m 43 ls []) := by
        intro k_
        induction k_ with
        | zero => intro j v H locs ls hj hv _ _ _ _; exact absurd hj (by omega)
        | succ k_ ih1 =>
          intro j v H locs ls hj hv hP hD hS hl
          refine lv_iload hx hb d_CM_number_43 (lv_at hl 0 rfl) ?_
          refine cx_if_lt (tgt := 73) hx hb d_CM_number_45 rfl (by omega) (fun h45 => ?_) (fun h45 => ?_)
          · have hj9 : j = -1 := by omega
            refine lv_aload_n hx hb d_CM_number_73 rfl (lv_at hl 3 rfl) ?_
            refine va_get (D := D) (ci := 4) (v := .ref (q 1)) (C := R_CM) (T := T_CM) (N := 7) hx hb hT lays_CM hown hK hP 0 rfl rfl 0 (by decide) (hT _ tw_121) (fun _ h9 => h9) rfl d_CM_number_74 ?_
            refine lv_iload_n hx hb d_CM_number_77 rfl (lv_at hl 4 rfl) ?_
            refine cx_cI (ws2 := fun _ => cmW T q n d (x 0) (x 1) (x 2) (x 3) (x 4) (x 11 0) (x 12 0) (x 13 0) (x 14 0) (x 15 0) (x 16 0) (x 17 0) (x 18 0) (x 19 0) (x 20 0) (x 21 0) (x 22 0)) (cx_rV (q0 := 10) (ci := 3) (rest := []) (As := [.int (iI (z))]) hx hb hml hown hT hK hN hP hD hl.1 tw_629 k_ST_isMinus (c_ST_isMinus l D T H.size q n (x 0) (x 1) hn hC z (by omega)) ⟨by decide, by decide⟩ ⟨rfl, rfl⟩ [10, 11] (by decide) rfl rfl rfl rfl rfl (Nat.le_of_ble_eq_true rfl) ⟨Nat.zero_le _, Nat.zero_le _⟩ d_CM_number_78) hP hD hS hA [10, 11] [0, 1, 2, 3, 4, 5, 6, 7, 8, 9] [0, 1, 2, 3, 4, 5, 6, 7, 8, 9, 10, 11] rfl (wr := [(q 0, .inr (4, [.ref (q 1), .ref (q 3), .ref (q 5), .ref (q 7), .ref (q 9), .int (iI (x 21 0)), .int (iI (x 22 0))])), (q 9, .inr (2, [.ref (q 1), .ref (q 3), .ref (q 5), .ref (q 7), .ref (q 10), .int (iI (x 11 0)), .int (iI (x 12 0)), .int (iI (x 13 0)), .int (iI (x 14 0)), .int (iI (x 15 0)), .int (iI (x 16 0)), .int (iI (x 17 0))])), (q 3, .inr (1, [.int (iI (20)), .int (iI (80)), .ref (q 4), .int (iI (x 18 0))])), (q 4, .inl (T 0, 1680, .inl (fun jj : Nat => (iF (x 2)) (jj : Int)))), (q 5, .inr (1, [.int (iI (40)), .int (iI (132)), .ref (q 6), .int (iI (x 19 0))])), (q 6, .inl (T 0, 5412, .inl (fun jj : Nat => (iF (x 3)) (jj : Int)))), (q 7, .inr (1, [.int (iI (20)), .int (iI (80)), .ref (q 8), .int (iI (x 20 0))])), (q 8, .inl (T 0, 1680, .inl (fun jj : Nat => (iF (x 4)) (jj : Int)))), (q 10, .inr (0, [.ref (q 1), .ref (q 11)])), (q 11, .inl (T 0, n, .inl (fun jj : Nat => (iF d) (jj : Int))))]) rfl (by decide) (by decide) (fun _ => rfl) (by decide) (fun r u_ H locs hq78 hP hD hS => ?_)
            rcases hq78 with ⟨rfl, h78⟩ | ⟨rfl, h78⟩
            · refine cx_if_eq (tgt := 89) hx hb d_CM_number_81 rfl (by omega) (fun h0 => absurd h0 (by decide)) (fun _ => ?_)
              refine lv_lload_n hx hb d_CM_number_84 rfl (lv_at hl 1 rfl) ?_
              refine lv_lneg hx hb d_CM_number_85 ?_
              refine lv_goto (tgt := 90) hx hb d_CM_number_86 rfl ?_
              exact hret () (⟨by unfold nmV; rw [← hk, if_neg (by omega), if_pos h78, hv, hj9, show k - 1 - -1 = k by omega], by unfold nmT; rw [← hk, if_neg hk0, if_neg (by omega)]⟩) hP hD hS d_CM_number_90
            · refine cx_if_eq (tgt := 89) hx hb d_CM_number_81 rfl (by omega) (fun _ => ?_) (fun h0 => absurd h0 (by decide))
              refine lv_lload_n hx hb d_CM_number_89 rfl (lv_at hl 1 rfl) ?_
              exact hret () (⟨by unfold nmV; rw [← hk, if_neg (by omega), if_neg h78, hv, hj9, show k - 1 - -1 = k by omega], by unfold nmT; rw [← hk, if_neg hk0, if_neg (by omega)]⟩) hP hD hS d_CM_number_90
          · refine lv_lload_n hx hb d_CM_number_48 rfl (lv_at hl 1 rfl) ?_
            refine lv_ldc2 (v := 10) hx hb hown (hT _ tw_627) d_CM_number_49 ?_
            refine lv_lmul hx hb d_CM_number_52 ?_
            refine lv_aload_n hx hb d_CM_number_53 rfl (lv_at hl 3 rfl) ?_
            refine va_get (D := D) (ci := 4) (v := .ref (q 1)) (C := R_CM) (T := T_CM) (N := 7) hx hb hT lays_CM hown hK hP 0 rfl rfl 0 (by decide) (hT _ tw_121) (fun _ h9 => h9) rfl d_CM_number_54 ?_
            refine lv_iload_n hx hb d_CM_number_57 rfl (lv_at hl 4 rfl) ?_
            refine lv_iload hx hb d_CM_number_58 (lv_at hl 0 rfl) ?_
            refine cx_isub hx hb d_CM_number_60 ?_
            refine cx_cI (ws2 := fun _ => cmW T q n d (x 0) (x 1) (x 2) (x 3) (x 4) (x 11 0) (x 12 0) (x 13 0) (x 14 0) (x 15 0) (x 16 0) (x 17 0) (x 18 0) (x 19 0) (x 20 0) (x 21 0) (x 22 0)) (cx_rV (q0 := 10) (ci := 3) (rest := [.long (v * ((10 : Int64)))]) (As := [.int (iI (z - j))]) hx hb hml hown hT hK hN hP hD hl.1 tw_628 k_ST_digit (c_ST_digit l D T H.size q n (x 0) (x 1) hn hC (z - j) (by omega)) ⟨by decide, by decide⟩ ⟨rfl, rfl⟩ [10, 11] (by decide) rfl rfl rfl rfl rfl (Nat.le_of_ble_eq_true rfl) ⟨Nat.zero_le _, Nat.zero_le _⟩ d_CM_number_61) hP hD hS hA [10, 11] [0, 1, 2, 3, 4, 5, 6, 7, 8, 9] [0, 1, 2, 3, 4, 5, 6, 7, 8, 9, 10, 11] rfl (wr := [(q 0, .inr (4, [.ref (q 1), .ref (q 3), .ref (q 5), .ref (q 7), .ref (q 9), .int (iI (x 21 0)), .int (iI (x 22 0))])), (q 9, .inr (2, [.ref (q 1), .ref (q 3), .ref (q 5), .ref (q 7), .ref (q 10), .int (iI (x 11 0)), .int (iI (x 12 0)), .int (iI (x 13 0)), .int (iI (x 14 0)), .int (iI (x 15 0)), .int (iI (x 16 0)), .int (iI (x 17 0))])), (q 3, .inr (1, [.int (iI (20)), .int (iI (80)), .ref (q 4), .int (iI (x 18 0))])), (q 4, .inl (T 0, 1680, .inl (fun jj : Nat => (iF (x 2)) (jj : Int)))), (q 5, .inr (1, [.int (iI (40)), .int (iI (132)), .ref (q 6), .int (iI (x 19 0))])), (q 6, .inl (T 0, 5412, .inl (fun jj : Nat => (iF (x 3)) (jj : Int)))), (q 7, .inr (1, [.int (iI (20)), .int (iI (80)), .ref (q 8), .int (iI (x 20 0))])), (q 8, .inl (T 0, 1680, .inl (fun jj : Nat => (iF (x 4)) (jj : Int)))), (q 10, .inr (0, [.ref (q 1), .ref (q 11)])), (q 11, .inl (T 0, n, .inl (fun jj : Nat => (iF d) (jj : Int))))]) rfl (by decide) (by decide) (fun _ => rfl) (by decide) (fun r u_ H locs hq61 hP hD hS => ?_)
            subst hq61
            refine lv_i2l (v := (iI (vl ((x 0) (z - j)))).toInt64) hx hb d_CM_number_64 rfl ?_
            refine lv_ladd hx hb d_CM_number_65 ?_
            refine lv_lstore_n (lv' := [(3, .long ((v * ((10 : Int64))) + ((iI (vl ((x 0) (z - j)))).toInt64))), (5, .int (iI (j))), (2, .int (iI (k))), (0, .ref (q 0)), (1, .int (iI (z)))]) hx hb d_CM_number_66 rfl hl (by decide) rfl (fun ls hl => ?_)
            refine cx_iinc (k := 1) (lv' := [(5, .int (iI (j + (-1)))), (3, .long ((v * ((10 : Int64))) + ((iI (vl ((x 0) (z - j)))).toInt64))), (2, .int (iI (k))), (0, .ref (q 0)), (1, .int (iI (z)))]) hx hb d_CM_number_67 hl rfl (by decide) rfl (fun ls hl => ?_)
            refine lv_goto (tgt := 43) hx hb d_CM_number_70 rfl ?_
            exact ih1 (j + (-1)) ((v * ((10 : Int64))) + ((iI (vl ((x 0) (z - j)))).toInt64)) _ _ _ (by omega) (by rw [nmA_s (by omega), ← hv, Int64.mul_comm]) hP hD hS (lv_sub hl [0, 1, 2, 3, 4] rfl)
      exact L1 20 (k - 1) 0 _ _ _ (by omega) (by rw [Int.sub_self]; rfl) hP hD hS (lv_sub hl [0, 1, 2, 3, 4] rfl)
    · exact hthr xw_UO (Or.inr ⟨rfl, by unfold nmT; rw [← hk, if_neg hk0, if_pos (by omega)]⟩) hl.1 d_CM_number_28 d_CM_number_31 d_CM_number_32 d_CM_number_35 hP hD hS
