/-! the reference: fetch -/
set_option maxHeartbeats 4000000 in
set_option maxRecDepth 100000 in
theorem c_MO_fetch (l : Launch) (D : va_G) (T : Nat → ClassId) (sz : Nat) (q : Nat → Nat) (n : Nat) (hn : 400 ≤ n ∧ n ≤ 2000) (x y : SX) (hX : okX x) : MI l y_MO_fetch (wY y_MO_fetch b_MO_fetch 3 (some .int)) (rmK 2) D vwCl (tyL T) nwL sz [.ref (q 20)] (moW T q n (x 0) (x 1) (mkF (x 2) (x 18 0)) (cdF (x 2) (x 18 0)) (x 3) (x 4) (x 11 0) (x 12 0) (x 13 0) (x 14 0) (x 15 0) (x 16 0) (x 17 0) (x 18 0) (x 19 0) (x 20 0) (x 21 0) (x 22 0) (y 31 0) (y 32 0) (y 33 0) (y 34 0) (y 35 0) (y 36 0) (y 37) (y 38) (y 39)) (fun r (u : SX × SX) => (∃ f : Int, r = iI f ∧ (f = 1 ∨ f = 2 ∨ f = 3) ∧ stpS n x = (f, x) ∧ u = (x, y)) ∨ (∃ k : Int, r = iI 0 ∧ ((1 ≤ k ∧ k ≤ 8) ∧ (0 ≤ x 11 0 ∧ x 11 0 + k < n)) ∧ alP (x 0 (x 11 0)) k ∧ stpS n x = perS n (x 0 (x 11 0)) k (x 12 0) (takS (x 0 (x 11 0)) k x) ∧ u = (takS (x 0 (x 11 0)) k x, ftY (x 0 (x 11 0)) k (x 11 0) (x 12 0) (x 13 0) y) ∧ okX u.1)) (fun (u : SX × SX) => moX T q n u.1 u.2) := by
  refine cx_inI (by decide) rfl (Nat.le_of_ble_eq_true rfl) ?_
  intro p e s m below meth cd ls A Q hx hb hml hT hown hret hP hK hD hN hS hA hl
  have hown : s.vm.findClass R_MO = some m.cls := hown
  have hl : lv_has ls 3 [(0, .ref (q 20))] := hl
  have hC := hX.1
  have hR0 := hX.2.1
  have hF := hX.2.2
  unfold okR at hR0
  refine lv_aload_n hx hb d_MO_fetch_0 rfl (lv_at hl 0 rfl) ?_
  refine lv_aload_n hx hb d_MO_fetch_1 rfl (lv_at hl 0 rfl) ?_
  refine va_get (D := D) (ci := 5) (v := .int (iI (x 11 0))) (C := R_MO) (T := T_MO) (N := 28) hx hb hT lays_MO hown hK hP 0 rfl rfl 4 (by decide) (hT _ tw_640) (fun _ h9 => h9) rfl d_MO_fetch_2 ?_
  refine cx_cI (ws2 := fun _ => moW T q n (x 0) (x 1) (mkF (x 2) (x 18 0)) (cdF (x 2) (x 18 0)) (x 3) (x 4) (x 11 0) (x 12 0) (x 13 0) (x 14 0) (x 15 0) (x 16 0) (x 17 0) (x 18 0) (x 19 0) (x 20 0) (x 21 0) (x 22 0) (y 31 0) (y 32 0) (y 33 0) (y 34 0) (y 35 0) (y 36 0) (y 37) (y 38) (y 39)) (cx_rV (q0 := 0) (ci := 5) (rest := []) (As := [.int (iI (x 11 0))]) hx hb hml hown hT hK hN hP hD hl.1 tw_731 k_MO_is (c_MO_is l D T s.heap.size q n hn x y hX (x 11 0) (by omega)) ⟨by decide, by decide⟩ ⟨rfl, rfl⟩ [0, 1, 2, 3, 4, 5, 6, 7, 8, 9] (by decide) rfl rfl rfl rfl rfl (Nat.le_of_ble_eq_true rfl) ⟨Nat.zero_le _, Nat.zero_le _⟩ d_MO_fetch_5) hP hD hS hA [0, 1, 2, 3, 4, 5, 6, 7, 8, 9] [] [0, 1, 2, 3, 4, 5, 6, 7, 8, 9] rfl (wr := []) rfl (by decide) (by decide) (fun _ => rfl) (by decide) (fun r u_ H locs hq5 hP hD hS => ?_)
  rcases hq5 with ⟨rfl, h5⟩ | ⟨rfl, h5⟩
  · refine cx_if_ne (tgt := 13) hx hb d_MO_fetch_8 rfl (by omega) (fun _ => ?_) (fun h0 => absurd h0 (by decide))
    refine lv_aload_n hx hb d_MO_fetch_13 rfl (lv_at hl 0 rfl) ?_
    refine va_get (D := D) (ci := 5) (v := .ref (q 22)) (C := R_MO) (T := T_MO) (N := 28) hx hb hT lays_MO hown hK hP 0 rfl rfl 3 (by decide) (hT _ tw_639) (fun _ h9 => h9) rfl d_MO_fetch_14 ?_
    refine lv_aload_n hx hb d_MO_fetch_17 rfl (lv_at hl 0 rfl) ?_
    refine va_get (D := D) (ci := 5) (v := .int (iI (x 11 0))) (C := R_MO) (T := T_MO) (N := 28) hx hb hT lays_MO hown hK hP 0 rfl rfl 4 (by decide) (hT _ tw_640) (fun _ h9 => h9) rfl d_MO_fetch_18 ?_
    refine cx_zald (g := iF (x 1)) hx hb hK hP 2 2 rfl rfl (by omega) (by omega) d_MO_fetch_21 ?_
    have hm21 := hC.2 (x 11 0)
    refine cx_if_ne (tgt := 27) hx hb d_MO_fetch_22 rfl (by omega) (fun h22 => ?_) (fun h22 => ?_)
    · refine cx_iconst hx hb d_MO_fetch_27 ?_
      refine lv_istore_n (lv' := [(1, .int (iI (1))), (0, .ref (q 20))]) hx hb d_MO_fetch_28 rfl hl (by decide) rfl (fun ls hl => ?_)
      have L1 : ∀ (k_ : Nat) (j : Int) (H : Heap) (locs : List Loc) (ls : Array Slot), (1 ≤ j ∧ j ≤ 9 ∧ j + k_ = 10) → (ins n (x 1) (x 11 0) 9 1 = ins n (x 1) (x 11 0) k_ j) → va_P D vwCl (moW T q n (x 0) (x 1) (mkF (x 2) (x 18 0)) (cdF (x 2) (x 18 0)) (x 3) (x 4) (x 11 0) (x 12 0) (x 13 0) (x 14 0) (x 15 0) (x 16 0) (x 17 0) (x 18 0) (x 19 0) (x 20 0) (x 21 0) (x 22 0) (y 31 0) (y 32 0) (y 33 0) (y 34 0) (y 35 0) (y 36 0) (y 37) (y 38) (y 39)) H → va_D A (moW T q n (x 0) (x 1) (mkF (x 2) (x 18 0)) (cdF (x 2) (x 18 0)) (x 3) (x 4) (x 11 0) (x 12 0) (x 13 0) (x 14 0) (x 15 0) (x 16 0) (x 17 0) (x 18 0) (x 19 0) (x 20 0) (x 21 0) (x 22 0) (y 31 0) (y 32 0) (y 33 0) (y 34 0) (y 35 0) (y 36 0) (y 37) (y 38) (y 39)) → va_S A s.heap H locs → lv_has ls 3 [(1, .int (iI (j))), (0, .ref (q 20))] → W p l e (rmK 2) s m ([.ref (q 20)] : List Value).toArray below meth cd H locs 0 0 Q (F0 m 29 ls []) := by
        intro k_
        induction k_ with
        | zero => intro j H locs ls hj hf _ _ _ _; exact absurd hj (by omega)
        | succ k_ ih1 =>
          intro j H locs ls hj hf hP hD hS hl
          refine lv_iload_n hx hb d_MO_fetch_29 rfl (lv_at hl 0 rfl) ?_
          refine cx_bipush hx hb d_MO_fetch_30 rfl ?_
          refine cx_icmp_ge (tgt := 85) hx hb d_MO_fetch_32 rfl (by omega) (by omega) (fun h32 => ?_) (fun h32 => ?_)
          · refine lv_iload_n hx hb d_MO_fetch_85 rfl (lv_at hl 0 rfl) ?_
            refine cx_bipush hx hb d_MO_fetch_86 rfl ?_
            refine cx_icmp_eq (tgt := 120) hx hb d_MO_fetch_88 rfl (by omega) (by omega) (fun h88 => ?_) (fun h88 => ?_)
            · refine cx_iconst hx hb d_MO_fetch_120 ?_
              exact hret ((x, y) : SX × SX) (Or.inl ⟨3, rfl, by decide, by unfold stpS; rw [if_pos (by omega), if_pos (by omega)]; unfold stpK; rw [show ins n (x 1) (x 11 0) 9 1 = 0 by rw [hf, ins, if_neg (by omega)], if_pos rfl], rfl⟩) hP hD hS d_MO_fetch_121
            · exfalso; omega
          · refine lv_aload_n hx hb d_MO_fetch_35 rfl (lv_at hl 1 rfl) ?_
            refine lv_aload_n hx hb d_MO_fetch_36 rfl (lv_at hl 1 rfl) ?_
            refine va_get (D := D) (ci := 5) (v := .int (iI (x 11 0))) (C := R_MO) (T := T_MO) (N := 28) hx hb hT lays_MO hown hK hP 0 rfl rfl 4 (by decide) (hT _ tw_640) (fun _ h9 => h9) rfl d_MO_fetch_37 ?_
            refine lv_iload_n hx hb d_MO_fetch_40 rfl (lv_at hl 0 rfl) ?_
            refine cx_iadd hx hb d_MO_fetch_41 ?_
            refine cx_cI (ws2 := fun _ => moW T q n (x 0) (x 1) (mkF (x 2) (x 18 0)) (cdF (x 2) (x 18 0)) (x 3) (x 4) (x 11 0) (x 12 0) (x 13 0) (x 14 0) (x 15 0) (x 16 0) (x 17 0) (x 18 0) (x 19 0) (x 20 0) (x 21 0) (x 22 0) (y 31 0) (y 32 0) (y 33 0) (y 34 0) (y 35 0) (y 36 0) (y 37) (y 38) (y 39)) (cx_rV (q0 := 0) (ci := 5) (rest := []) (As := [.int (iI ((x 11 0) + j))]) hx hb hml hown hT hK hN hP hD hl.1 tw_731 k_MO_is (c_MO_is l D T H.size q n hn x y hX ((x 11 0) + j) (by omega)) ⟨by decide, by decide⟩ ⟨rfl, rfl⟩ [0, 1, 2, 3, 4, 5, 6, 7, 8, 9] (by decide) rfl rfl rfl rfl rfl (Nat.le_of_ble_eq_true rfl) ⟨Nat.zero_le _, Nat.zero_le _⟩ d_MO_fetch_42) hP hD hS hA [0, 1, 2, 3, 4, 5, 6, 7, 8, 9] [] [0, 1, 2, 3, 4, 5, 6, 7, 8, 9] rfl (wr := []) rfl (by decide) (by decide) (fun _ => rfl) (by decide) (fun r u_ H locs hq42 hP hD hS => ?_)
            rcases hq42 with ⟨rfl, h42⟩ | ⟨rfl, h42⟩
            · refine cx_if_eq (tgt := 85) hx hb d_MO_fetch_45 rfl (by omega) (fun h0 => absurd h0 (by decide)) (fun _ => ?_)
              refine lv_aload_n hx hb d_MO_fetch_48 rfl (lv_at hl 1 rfl) ?_
              refine va_get (D := D) (ci := 5) (v := .ref (q 22)) (C := R_MO) (T := T_MO) (N := 28) hx hb hT lays_MO hown hK hP 0 rfl rfl 3 (by decide) (hT _ tw_639) (fun _ h9 => h9) rfl d_MO_fetch_49 ?_
              refine lv_aload_n hx hb d_MO_fetch_52 rfl (lv_at hl 1 rfl) ?_
              refine lv_aload_n hx hb d_MO_fetch_53 rfl (lv_at hl 1 rfl) ?_
              refine va_get (D := D) (ci := 5) (v := .int (iI (x 11 0))) (C := R_MO) (T := T_MO) (N := 28) hx hb hT lays_MO hown hK hP 0 rfl rfl 4 (by decide) (hT _ tw_640) (fun _ h9 => h9) rfl d_MO_fetch_54 ?_
              refine lv_iload_n hx hb d_MO_fetch_57 rfl (lv_at hl 0 rfl) ?_
              refine cx_iadd hx hb d_MO_fetch_58 ?_
              refine cx_cI (ws2 := fun _ => moW T q n (x 0) (x 1) (mkF (x 2) (x 18 0)) (cdF (x 2) (x 18 0)) (x 3) (x 4) (x 11 0) (x 12 0) (x 13 0) (x 14 0) (x 15 0) (x 16 0) (x 17 0) (x 18 0) (x 19 0) (x 20 0) (x 21 0) (x 22 0) (y 31 0) (y 32 0) (y 33 0) (y 34 0) (y 35 0) (y 36 0) (y 37) (y 38) (y 39)) (cx_rV (q0 := 0) (ci := 5) (rest := [.ref (q 22)]) (As := [.int (iI ((x 11 0) + j))]) hx hb hml hown hT hK hN hP hD hl.1 tw_731 k_MO_is (c_MO_is l D T H.size q n hn x y hX ((x 11 0) + j) (by omega)) ⟨by decide, by decide⟩ ⟨rfl, rfl⟩ [0, 1, 2, 3, 4, 5, 6, 7, 8, 9] (by decide) rfl rfl rfl rfl rfl (Nat.le_of_ble_eq_true rfl) ⟨Nat.zero_le _, Nat.zero_le _⟩ d_MO_fetch_59) hP hD hS hA [0, 1, 2, 3, 4, 5, 6, 7, 8, 9] [] [0, 1, 2, 3, 4, 5, 6, 7, 8, 9] rfl (wr := []) rfl (by decide) (by decide) (fun _ => rfl) (by decide) (fun r u_ H locs hq59 hP hD hS => ?_)
              rcases hq59 with ⟨rfl, h59⟩ | ⟨rfl, h59⟩
              · refine cx_if_eq (tgt := 74) hx hb d_MO_fetch_62 rfl (by omega) (fun h0 => absurd h0 (by decide)) (fun _ => ?_)
                refine lv_aload_n hx hb d_MO_fetch_65 rfl (lv_at hl 1 rfl) ?_
                refine va_get (D := D) (ci := 5) (v := .int (iI (x 11 0))) (C := R_MO) (T := T_MO) (N := 28) hx hb hT lays_MO hown hK hP 0 rfl rfl 4 (by decide) (hT _ tw_640) (fun _ h9 => h9) rfl d_MO_fetch_66 ?_
                refine lv_iload_n hx hb d_MO_fetch_69 rfl (lv_at hl 0 rfl) ?_
                refine cx_iadd hx hb d_MO_fetch_70 ?_
                refine lv_goto (tgt := 75) hx hb d_MO_fetch_71 rfl ?_
                refine cx_zald (g := iF (x 1)) hx hb hK hP 2 2 rfl rfl (by omega) (by omega) d_MO_fetch_75 ?_
                have hm75 := hC.2 ((x 11 0) + j)
                refine cx_if_ne (tgt := 85) hx hb d_MO_fetch_76 rfl (by omega) (fun h76 => ?_) (fun h76 => ?_)
                · refine lv_iload_n hx hb d_MO_fetch_85 rfl (lv_at hl 0 rfl) ?_
                  refine cx_bipush hx hb d_MO_fetch_86 rfl ?_
                  refine cx_icmp_eq (tgt := 120) hx hb d_MO_fetch_88 rfl (by omega) (by omega) (fun h88 => ?_) (fun h88 => ?_)
                  · exfalso; omega
                  · refine lv_aload_n hx hb d_MO_fetch_91 rfl (lv_at hl 1 rfl) ?_
                    refine lv_aload_n hx hb d_MO_fetch_92 rfl (lv_at hl 1 rfl) ?_
                    refine va_get (D := D) (ci := 5) (v := .int (iI (x 11 0))) (C := R_MO) (T := T_MO) (N := 28) hx hb hT lays_MO hown hK hP 0 rfl rfl 4 (by decide) (hT _ tw_640) (fun _ h9 => h9) rfl d_MO_fetch_93 ?_
                    refine lv_iload_n hx hb d_MO_fetch_96 rfl (lv_at hl 0 rfl) ?_
                    refine cx_iadd hx hb d_MO_fetch_97 ?_
                    refine cx_cI (ws2 := fun _ => moW T q n (x 0) (x 1) (mkF (x 2) (x 18 0)) (cdF (x 2) (x 18 0)) (x 3) (x 4) (x 11 0) (x 12 0) (x 13 0) (x 14 0) (x 15 0) (x 16 0) (x 17 0) (x 18 0) (x 19 0) (x 20 0) (x 21 0) (x 22 0) (y 31 0) (y 32 0) (y 33 0) (y 34 0) (y 35 0) (y 36 0) (y 37) (y 38) (y 39)) (cx_rV (q0 := 0) (ci := 5) (rest := []) (As := [.int (iI ((x 11 0) + j))]) hx hb hml hown hT hK hN hP hD hl.1 tw_731 k_MO_is (c_MO_is l D T H.size q n hn x y hX ((x 11 0) + j) (by omega)) ⟨by decide, by decide⟩ ⟨rfl, rfl⟩ [0, 1, 2, 3, 4, 5, 6, 7, 8, 9] (by decide) rfl rfl rfl rfl rfl (Nat.le_of_ble_eq_true rfl) ⟨Nat.zero_le _, Nat.zero_le _⟩ d_MO_fetch_98) hP hD hS hA [0, 1, 2, 3, 4, 5, 6, 7, 8, 9] [] [0, 1, 2, 3, 4, 5, 6, 7, 8, 9] rfl (wr := []) rfl (by decide) (by decide) (fun _ => rfl) (by decide) (fun r u_ H locs hq98 hP hD hS => ?_)
                    rcases hq98 with ⟨rfl, h98⟩ | ⟨rfl, h98⟩
                    · refine cx_if_eq (tgt := 120) hx hb d_MO_fetch_101 rfl (by omega) (fun h0 => absurd h0 (by decide)) (fun _ => ?_)
                      have hk : ins n (x 1) (x 11 0) 9 1 = j := by rw [hf, ins, if_pos (by omega), if_pos (by omega)]
                      have hcO := hC.1 (x 11 0)
                      refine lv_aload_n hx hb d_MO_fetch_104 rfl (lv_at hl 1 rfl) ?_
                      refine va_get (D := D) (ci := 5) (v := .ref (q 21)) (C := R_MO) (T := T_MO) (N := 28) hx hb hT lays_MO hown hK hP 0 rfl rfl 2 (by decide) (hT _ tw_638) (fun _ h9 => h9) rfl d_MO_fetch_105 ?_
                      refine lv_aload_n hx hb d_MO_fetch_108 rfl (lv_at hl 1 rfl) ?_
                      refine va_get (D := D) (ci := 5) (v := .int (iI (x 11 0))) (C := R_MO) (T := T_MO) (N := 28) hx hb hT lays_MO hown hK hP 0 rfl rfl 4 (by decide) (hT _ tw_640) (fun _ h9 => h9) rfl d_MO_fetch_109 ?_
                      refine cx_bald (g := iF (x 0)) hx hb hK hP 1 1 rfl rfl (by omega) (by omega) d_MO_fetch_112 ?_
                      have hc112 := hC.1 (x 11 0)
                      refine lv_iload_n hx hb d_MO_fetch_113 rfl (lv_at hl 0 rfl) ?_
                      refine cx_cI (ws2 := fun _ => moW T q n (x 0) (x 1) (mkF (x 2) (x 18 0)) (cdF (x 2) (x 18 0)) (x 3) (x 4) (x 11 0) (x 12 0) (x 13 0) (x 14 0) (x 15 0) (x 16 0) (x 17 0) (x 18 0) (x 19 0) (x 20 0) (x 21 0) (x 22 0) (y 31 0) (y 32 0) (y 33 0) (y 34 0) (y 35 0) (y 36 0) (y 37) (y 38) (y 39)) (cx_rS (rest := []) (As := [.int (iI ((x 0) (x 11 0))), .int (iI (j))]) hx hb hml hown hT hK hN hP hD hl.1 tw_765 k_MO_may (c_MO_may l D T H.size ((x 0) (x 11 0)) (by omega) j (by omega)) ⟨by decide, by decide⟩ ⟨rfl, rfl⟩ [] (by decide) rfl rfl rfl (Nat.le_of_ble_eq_true rfl) ⟨Nat.zero_le _, Nat.zero_le _⟩ d_MO_fetch_114) hP hD hS hA [] [0, 1, 2, 3, 4, 5, 6, 7, 8, 9] [0, 1, 2, 3, 4, 5, 6, 7, 8, 9] rfl (wr := [(q 20, .inr (5, [.int (iI (y 31 0)), .int (iI ((n : Int))), .ref (q 21), .ref (q 22), .int (iI (x 11 0)), .int (iI (x 12 0)), .int (iI (x 13 0)), .int (iI (x 14 0)), .int (iI (x 15 0)), .int (iI (x 16 0)), .int (iI (x 21 0)), .int (iI (x 22 0)), .int (iI (y 32 0)), .int (iI (y 33 0)), .int (iI (y 34 0)), .int (iI (y 35 0)), .int (iI (y 36 0)), .ref (q 23), .int (iI (x 18 0)), .int (iI (x 17 0)), .ref (q 24), .int (iI (x 19 0)), .ref (q 25), .int (iI (x 20 0)), .ref (q 26), .ref (q 27), .ref (q 28), .ref (q 29)])), (q 21, .inl (T 1, 2000, .inl (fun jj : Nat => (iF (x 0)) (jj : Int)))), (q 22, .inl (T 2, 2000, .inl (fun jj : Nat => (iF (x 1)) (jj : Int)))), (q 23, .inl (T 1, 80, .inl (fun jj : Nat => (iF (mkF (x 2) (x 18 0))) (jj : Int)))), (q 24, .inl (T 1, 1600, .inl (fun jj : Nat => (iF (cdF (x 2) (x 18 0))) (jj : Int)))), (q 25, .inl (T 1, 5280, .inl (fun jj : Nat => (iF (x 3)) (jj : Int)))), (q 26, .inl (T 1, 1600, .inl (fun jj : Nat => (iF (x 4)) (jj : Int)))), (q 27, .inl (T 0, 2000, .inl (fun jj : Nat => (iF (y 37)) (jj : Int)))), (q 28, .inl (T 0, 2000, .inl (fun jj : Nat => (iF (y 38)) (jj : Int)))), (q 29, .inl (T 1, 2000, .inl (fun jj : Nat => (iF (y 39)) (jj : Int))))]) rfl (by decide) (by decide) (fun _ => rfl) (by decide) (fun r u_ H locs hq114 hP hD hS => ?_)
                      rcases hq114 with ⟨rfl, h114⟩ | ⟨rfl, h114⟩
                      · refine cx_if_ne (tgt := 122) hx hb d_MO_fetch_117 rfl (by omega) (fun _ => ?_) (fun h0 => absurd h0 (by decide))
                        have ha1 := adr_in hC (x 11 0 + 1)
                        have ha4 := adr_in hC (x 11 0 + 4)
                        refine lv_aload_n hx hb d_MO_fetch_122 rfl (lv_at hl 1 rfl) ?_
                        refine lv_aload_n hx hb d_MO_fetch_123 rfl (lv_at hl 1 rfl) ?_
                        refine va_get (D := D) (ci := 5) (v := .int (iI (x 11 0))) (C := R_MO) (T := T_MO) (N := 28) hx hb hT lays_MO hown hK hP 0 rfl rfl 4 (by decide) (hT _ tw_640) (fun _ h9 => h9) rfl d_MO_fetch_124 ?_
                        refine va_put (D := D) (ci := 5) (v := .int (iI (x 11 0))) (ty := .int) (C := R_MO) (T := T_MO) (N := 28) hx hb hT lays_MO t_MO t_MO_ok n_MO hown hK hP hD hS 0 rfl rfl 14 (by decide) (hT _ tw_650) (fun _ h9 => h9) rfl (by decide +kernel) rfl rfl (Nat.le_of_ble_eq_true rfl) d_MO_fetch_127 (fun H locs hP hD hS => ?_)
                        have hP : va_P D vwCl (moW T q n (x 0) (x 1) (mkF (x 2) (x 18 0)) (cdF (x 2) (x 18 0)) (x 3) (x 4) (x 11 0) (x 12 0) (x 13 0) (x 14 0) (x 15 0) (x 16 0) (x 17 0) (x 18 0) (x 19 0) (x 20 0) (x 21 0) (x 22 0) (y 31 0) (y 32 0) (y 33 0) (x 11 0) (y 35 0) (y 36 0) (y 37) (y 38) (y 39)) H := hP
                        have hD : va_D A (moW T q n (x 0) (x 1) (mkF (x 2) (x 18 0)) (cdF (x 2) (x 18 0)) (x 3) (x 4) (x 11 0) (x 12 0) (x 13 0) (x 14 0) (x 15 0) (x 16 0) (x 17 0) (x 18 0) (x 19 0) (x 20 0) (x 21 0) (x 22 0) (y 31 0) (y 32 0) (y 33 0) (x 11 0) (y 35 0) (y 36 0) (y 37) (y 38) (y 39)) := hD
                        refine lv_aload_n hx hb d_MO_fetch_130 rfl (lv_at hl 1 rfl) ?_
                        refine lv_iload_n hx hb d_MO_fetch_131 rfl (lv_at hl 0 rfl) ?_
                        refine va_put (D := D) (ci := 5) (v := .int (iI (j))) (ty := .int) (C := R_MO) (T := T_MO) (N := 28) hx hb hT lays_MO t_MO t_MO_ok n_MO hown hK hP hD hS 0 rfl rfl 13 (by decide) (hT _ tw_649) (fun _ h9 => h9) rfl (by decide +kernel) rfl rfl (Nat.le_of_ble_eq_true rfl) d_MO_fetch_132 (fun H locs hP hD hS => ?_)
                        have hP : va_P D vwCl (moW T q n (x 0) (x 1) (mkF (x 2) (x 18 0)) (cdF (x 2) (x 18 0)) (x 3) (x 4) (x 11 0) (x 12 0) (x 13 0) (x 14 0) (x 15 0) (x 16 0) (x 17 0) (x 18 0) (x 19 0) (x 20 0) (x 21 0) (x 22 0) (y 31 0) (y 32 0) j (x 11 0) (y 35 0) (y 36 0) (y 37) (y 38) (y 39)) H := hP
                        have hD : va_D A (moW T q n (x 0) (x 1) (mkF (x 2) (x 18 0)) (cdF (x 2) (x 18 0)) (x 3) (x 4) (x 11 0) (x 12 0) (x 13 0) (x 14 0) (x 15 0) (x 16 0) (x 17 0) (x 18 0) (x 19 0) (x 20 0) (x 21 0) (x 22 0) (y 31 0) (y 32 0) j (x 11 0) (y 35 0) (y 36 0) (y 37) (y 38) (y 39)) := hD
                        refine lv_aload_n hx hb d_MO_fetch_135 rfl (lv_at hl 1 rfl) ?_
                        refine lv_aload_n hx hb d_MO_fetch_136 rfl (lv_at hl 1 rfl) ?_
                        refine va_get (D := D) (ci := 5) (v := .ref (q 21)) (C := R_MO) (T := T_MO) (N := 28) hx hb hT lays_MO hown hK hP 0 rfl rfl 2 (by decide) (hT _ tw_638) (fun _ h9 => h9) rfl d_MO_fetch_137 ?_
                        refine lv_aload_n hx hb d_MO_fetch_140 rfl (lv_at hl 1 rfl) ?_
                        refine va_get (D := D) (ci := 5) (v := .int (iI (x 11 0))) (C := R_MO) (T := T_MO) (N := 28) hx hb hT lays_MO hown hK hP 0 rfl rfl 4 (by decide) (hT _ tw_640) (fun _ h9 => h9) rfl d_MO_fetch_141 ?_
                        refine cx_bald (g := iF (x 0)) hx hb hK hP 1 1 rfl rfl (by omega) (by omega) d_MO_fetch_144 ?_
                        have hc144 := hC.1 (x 11 0)
                        refine va_put (D := D) (ci := 5) (v := .int (iI ((x 0) (x 11 0)))) (ty := .int) (C := R_MO) (T := T_MO) (N := 28) hx hb hT lays_MO t_MO t_MO_ok n_MO hown hK hP hD hS 0 rfl rfl 12 (by decide) (hT _ tw_648) (fun _ h9 => h9) rfl (by decide +kernel) rfl rfl (Nat.le_of_ble_eq_true rfl) d_MO_fetch_145 (fun H locs hP hD hS => ?_)
                        have hP : va_P D vwCl (moW T q n (x 0) (x 1) (mkF (x 2) (x 18 0)) (cdF (x 2) (x 18 0)) (x 3) (x 4) (x 11 0) (x 12 0) (x 13 0) (x 14 0) (x 15 0) (x 16 0) (x 17 0) (x 18 0) (x 19 0) (x 20 0) (x 21 0) (x 22 0) (y 31 0) ((x 0) (x 11 0)) j (x 11 0) (y 35 0) (y 36 0) (y 37) (y 38) (y 39)) H := hP
                        have hD : va_D A (moW T q n (x 0) (x 1) (mkF (x 2) (x 18 0)) (cdF (x 2) (x 18 0)) (x 3) (x 4) (x 11 0) (x 12 0) (x 13 0) (x 14 0) (x 15 0) (x 16 0) (x 17 0) (x 18 0) (x 19 0) (x 20 0) (x 21 0) (x 22 0) (y 31 0) ((x 0) (x 11 0)) j (x 11 0) (y 35 0) (y 36 0) (y 37) (y 38) (y 39)) := hD
                        refine lv_aload_n hx hb d_MO_fetch_148 rfl (lv_at hl 1 rfl) ?_
                        refine lv_aload_n hx hb d_MO_fetch_149 rfl (lv_at hl 1 rfl) ?_
                        refine va_get (D := D) (ci := 5) (v := .int (iI (x 12 0))) (C := R_MO) (T := T_MO) (N := 28) hx hb hT lays_MO hown hK hP 0 rfl rfl 5 (by decide) (hT _ tw_641) (fun _ h9 => h9) rfl d_MO_fetch_150 ?_
                        refine va_put (D := D) (ci := 5) (v := .int (iI (x 12 0))) (ty := .int) (C := R_MO) (T := T_MO) (N := 28) hx hb hT lays_MO t_MO t_MO_ok n_MO hown hK hP hD hS 0 rfl rfl 15 (by decide) (hT _ tw_651) (fun _ h9 => h9) rfl (by decide +kernel) rfl rfl (Nat.le_of_ble_eq_true rfl) d_MO_fetch_153 (fun H locs hP hD hS => ?_)
                        have hP : va_P D vwCl (moW T q n (x 0) (x 1) (mkF (x 2) (x 18 0)) (cdF (x 2) (x 18 0)) (x 3) (x 4) (x 11 0) (x 12 0) (x 13 0) (x 14 0) (x 15 0) (x 16 0) (x 17 0) (x 18 0) (x 19 0) (x 20 0) (x 21 0) (x 22 0) (y 31 0) ((x 0) (x 11 0)) j (x 11 0) (x 12 0) (y 36 0) (y 37) (y 38) (y 39)) H := hP
                        have hD : va_D A (moW T q n (x 0) (x 1) (mkF (x 2) (x 18 0)) (cdF (x 2) (x 18 0)) (x 3) (x 4) (x 11 0) (x 12 0) (x 13 0) (x 14 0) (x 15 0) (x 16 0) (x 17 0) (x 18 0) (x 19 0) (x 20 0) (x 21 0) (x 22 0) (y 31 0) ((x 0) (x 11 0)) j (x 11 0) (x 12 0) (y 36 0) (y 37) (y 38) (y 39)) := hD
                        refine lv_aload_n hx hb d_MO_fetch_156 rfl (lv_at hl 1 rfl) ?_
                        refine lv_aload_n hx hb d_MO_fetch_157 rfl (lv_at hl 1 rfl) ?_
                        refine va_get (D := D) (ci := 5) (v := .int (iI (x 13 0))) (C := R_MO) (T := T_MO) (N := 28) hx hb hT lays_MO hown hK hP 0 rfl rfl 6 (by decide) (hT _ tw_642) (fun _ h9 => h9) rfl d_MO_fetch_158 ?_
                        refine va_put (D := D) (ci := 5) (v := .int (iI (x 13 0))) (ty := .int) (C := R_MO) (T := T_MO) (N := 28) hx hb hT lays_MO t_MO t_MO_ok n_MO hown hK hP hD hS 0 rfl rfl 16 (by decide) (hT _ tw_652) (fun _ h9 => h9) rfl (by decide +kernel) rfl rfl (Nat.le_of_ble_eq_true rfl) d_MO_fetch_161 (fun H locs hP hD hS => ?_)
                        have hP : va_P D vwCl (moW T q n (x 0) (x 1) (mkF (x 2) (x 18 0)) (cdF (x 2) (x 18 0)) (x 3) (x 4) (x 11 0) (x 12 0) (x 13 0) (x 14 0) (x 15 0) (x 16 0) (x 17 0) (x 18 0) (x 19 0) (x 20 0) (x 21 0) (x 22 0) (y 31 0) ((x 0) (x 11 0)) j (x 11 0) (x 12 0) (x 13 0) (y 37) (y 38) (y 39)) H := hP
                        have hD : va_D A (moW T q n (x 0) (x 1) (mkF (x 2) (x 18 0)) (cdF (x 2) (x 18 0)) (x 3) (x 4) (x 11 0) (x 12 0) (x 13 0) (x 14 0) (x 15 0) (x 16 0) (x 17 0) (x 18 0) (x 19 0) (x 20 0) (x 21 0) (x 22 0) (y 31 0) ((x 0) (x 11 0)) j (x 11 0) (x 12 0) (x 13 0) (y 37) (y 38) (y 39)) := hD
                        refine lv_aload_n hx hb d_MO_fetch_164 rfl (lv_at hl 1 rfl) ?_
                        refine lv_dup hx hb d_MO_fetch_165 rfl ?_
                        refine va_get (D := D) (ci := 5) (v := .int (iI (x 11 0))) (C := R_MO) (T := T_MO) (N := 28) hx hb hT lays_MO hown hK hP 0 rfl rfl 4 (by decide) (hT _ tw_640) (fun _ h9 => h9) rfl d_MO_fetch_166 ?_
                        refine lv_iload_n hx hb d_MO_fetch_169 rfl (lv_at hl 0 rfl) ?_
                        refine cx_iadd hx hb d_MO_fetch_170 ?_
                        refine va_put (D := D) (ci := 5) (v := .int (iI ((x 11 0) + j))) (ty := .int) (C := R_MO) (T := T_MO) (N := 28) hx hb hT lays_MO t_MO t_MO_ok n_MO hown hK hP hD hS 0 rfl rfl 4 (by decide) (hT _ tw_640) (fun _ h9 => h9) rfl (by decide +kernel) rfl rfl (Nat.le_of_ble_eq_true rfl) d_MO_fetch_171 (fun H locs hP hD hS => ?_)
                        have hP : va_P D vwCl (moW T q n (x 0) (x 1) (mkF (x 2) (x 18 0)) (cdF (x 2) (x 18 0)) (x 3) (x 4) ((x 11 0) + j) (x 12 0) (x 13 0) (x 14 0) (x 15 0) (x 16 0) (x 17 0) (x 18 0) (x 19 0) (x 20 0) (x 21 0) (x 22 0) (y 31 0) ((x 0) (x 11 0)) j (x 11 0) (x 12 0) (x 13 0) (y 37) (y 38) (y 39)) H := hP
                        have hD : va_D A (moW T q n (x 0) (x 1) (mkF (x 2) (x 18 0)) (cdF (x 2) (x 18 0)) (x 3) (x 4) ((x 11 0) + j) (x 12 0) (x 13 0) (x 14 0) (x 15 0) (x 16 0) (x 17 0) (x 18 0) (x 19 0) (x 20 0) (x 21 0) (x 22 0) (y 31 0) ((x 0) (x 11 0)) j (x 11 0) (x 12 0) (x 13 0) (y 37) (y 38) (y 39)) := hD
                        refine lv_iload_n hx hb d_MO_fetch_174 rfl (lv_at hl 0 rfl) ?_
                        refine cx_iconst hx hb d_MO_fetch_175 ?_
                        refine cx_icmp_lt (tgt := 193) hx hb d_MO_fetch_176 rfl (by omega) (by omega) (fun h176 => ?_) (fun h176 => ?_)
                        · have J252 : ∀ v252 : Int, ((v252 = 1 ∧ (x 0 (x 11 0) = 36 ∨ x 0 (x 11 0) = 35 ∨ x 0 (x 11 0) = 52 ∨ x 0 (x 11 0) = 24 ∨ x 0 (x 11 0) = 40 ∨ x 0 (x 11 0) = 56)) ∨ (v252 = 0 ∧ ¬ (x 0 (x 11 0) = 36 ∨ x 0 (x 11 0) = 35 ∨ x 0 (x 11 0) = 52 ∨ x 0 (x 11 0) = 24 ∨ x 0 (x 11 0) = 40 ∨ x 0 (x 11 0) = 56))) → W p l e (rmK 2) s m ([.ref (q 20)] : List Value).toArray below meth cd H locs 0 0 Q (F0 m 252 ls [.int (iI v252)]) := by
                            intro v252 hv252
                            refine lv_istore_n (lv' := [(2, .int (iI (v252))), (1, .int (iI (j))), (0, .ref (q 20))]) hx hb d_MO_fetch_252 rfl hl (by decide) rfl (fun ls hl => ?_)
                            refine lv_iload_n hx hb d_MO_fetch_253 rfl (lv_at hl 1 rfl) ?_
                            refine cx_bipush hx hb d_MO_fetch_254 rfl ?_
                            refine cx_icmp_lt (tgt := 276) hx hb d_MO_fetch_256 rfl (by omega) (by omega) (fun h256 => ?_) (fun h256 => ?_)
                            · refine lv_iload_n hx hb d_MO_fetch_276 rfl (lv_at hl 1 rfl) ?_
                              refine cx_iconst hx hb d_MO_fetch_277 ?_
                              refine cx_icmp_lt (tgt := 293) hx hb d_MO_fetch_278 rfl (by omega) (by omega) (fun h278 => ?_) (fun h278 => ?_)
                              · refine cx_iconst hx hb d_MO_fetch_293 ?_
                                exact hret (((up x 11 (cst ((x 11 0) + j))), (up (up (up (up (up y 32 (cst ((x 0) (x 11 0)))) 33 (cst j)) 34 (cst (x 11 0))) 35 (cst (x 12 0))) 36 (cst (x 13 0)))) : SX × SX) (Or.inr ⟨j, rfl, by omega, h114, by unfold stpS; rw [if_pos (by omega), if_pos (by omega)]; unfold stpK; rw [hk, if_neg (by omega), if_pos (show alv (x 0 (x 11 0)) j from h114)], by rw [show takS (x 0 (x 11 0)) j x = (up x 11 (cst ((x 11 0) + j))) by first | (exfalso; omega) | (unfold takS takA takB; repeat (first | rfl | (rw [if_pos (by omega)]) | (rw [if_neg (by omega)])))]; rfl, (show okX (up x 11 (cst ((x 11 0) + j))) from ⟨hX.1, (show okR ((x 11 0) + j) (x 12 0) (x 13 0) (x 14 0) (x 15 0) (x 16 0) (x 17 0) (x 18 0) (x 19 0) (x 20 0) by have h8 := hX.2.1; unfold okR at h8 ⊢; omega), hX.2.2⟩)⟩) hP hD hS d_MO_fetch_294
                              · refine lv_iload_n hx hb d_MO_fetch_281 rfl (lv_at hl 0 rfl) ?_
                                refine cx_if_ne (tgt := 293) hx hb d_MO_fetch_282 rfl (by omega) (fun h282 => ?_) (fun h282 => ?_)
                                · refine cx_iconst hx hb d_MO_fetch_293 ?_
                                  exact hret (((up x 11 (cst ((x 11 0) + j))), (up (up (up (up (up y 32 (cst ((x 0) (x 11 0)))) 33 (cst j)) 34 (cst (x 11 0))) 35 (cst (x 12 0))) 36 (cst (x 13 0)))) : SX × SX) (Or.inr ⟨j, rfl, by omega, h114, by unfold stpS; rw [if_pos (by omega), if_pos (by omega)]; unfold stpK; rw [hk, if_neg (by omega), if_pos (show alv (x 0 (x 11 0)) j from h114)], by rw [show takS (x 0 (x 11 0)) j x = (up x 11 (cst ((x 11 0) + j))) by first | (exfalso; omega) | (unfold takS takA takB; repeat (first | rfl | (rw [if_pos (by omega)]) | (rw [if_neg (by omega)])))]; rfl, (show okX (up x 11 (cst ((x 11 0) + j))) from ⟨hX.1, (show okR ((x 11 0) + j) (x 12 0) (x 13 0) (x 14 0) (x 15 0) (x 16 0) (x 17 0) (x 18 0) (x 19 0) (x 20 0) by have h8 := hX.2.1; unfold okR at h8 ⊢; omega), hX.2.2⟩)⟩) hP hD hS d_MO_fetch_294
                                · refine lv_aload_n hx hb d_MO_fetch_285 rfl (lv_at hl 2 rfl) ?_
                                  refine lv_aload_n hx hb d_MO_fetch_286 rfl (lv_at hl 2 rfl) ?_
                                  refine va_get (D := D) (ci := 5) (v := .int (iI (x 12 0))) (C := R_MO) (T := T_MO) (N := 28) hx hb hT lays_MO hown hK hP 0 rfl rfl 5 (by decide) (hT _ tw_641) (fun _ h9 => h9) rfl d_MO_fetch_287 ?_
                                  refine va_put (D := D) (ci := 5) (v := .int (iI (x 12 0))) (ty := .int) (C := R_MO) (T := T_MO) (N := 28) hx hb hT lays_MO t_MO t_MO_ok n_MO hown hK hP hD hS 0 rfl rfl 6 (by decide) (hT _ tw_642) (fun _ h9 => h9) rfl (by decide +kernel) rfl rfl (Nat.le_of_ble_eq_true rfl) d_MO_fetch_290 (fun H locs hP hD hS => ?_)
                                  have hP : va_P D vwCl (moW T q n (x 0) (x 1) (mkF (x 2) (x 18 0)) (cdF (x 2) (x 18 0)) (x 3) (x 4) ((x 11 0) + j) (x 12 0) (x 12 0) (x 14 0) (x 15 0) (x 16 0) (x 17 0) (x 18 0) (x 19 0) (x 20 0) (x 21 0) (x 22 0) (y 31 0) ((x 0) (x 11 0)) j (x 11 0) (x 12 0) (x 13 0) (y 37) (y 38) (y 39)) H := hP
                                  have hD : va_D A (moW T q n (x 0) (x 1) (mkF (x 2) (x 18 0)) (cdF (x 2) (x 18 0)) (x 3) (x 4) ((x 11 0) + j) (x 12 0) (x 12 0) (x 14 0) (x 15 0) (x 16 0) (x 17 0) (x 18 0) (x 19 0) (x 20 0) (x 21 0) (x 22 0) (y 31 0) ((x 0) (x 11 0)) j (x 11 0) (x 12 0) (x 13 0) (y 37) (y 38) (y 39)) := hD
                                  refine cx_iconst hx hb d_MO_fetch_293 ?_
                                  exact hret (((up (up x 11 (cst ((x 11 0) + j))) 13 (x 12)), (up (up (up (up (up y 32 (cst ((x 0) (x 11 0)))) 33 (cst j)) 34 (cst (x 11 0))) 35 (cst (x 12 0))) 36 (cst (x 13 0)))) : SX × SX) (Or.inr ⟨j, rfl, by omega, h114, by unfold stpS; rw [if_pos (by omega), if_pos (by omega)]; unfold stpK; rw [hk, if_neg (by omega), if_pos (show alv (x 0 (x 11 0)) j from h114)], by rw [show takS (x 0 (x 11 0)) j x = (up (up x 11 (cst ((x 11 0) + j))) 13 (x 12)) by first | (exfalso; omega) | (unfold takS takA takB; repeat (first | rfl | (rw [if_pos (by omega)]) | (rw [if_neg (by omega)])))]; rfl, (show okX (up (up x 11 (cst ((x 11 0) + j))) 13 (x 12)) from ⟨hX.1, (show okR ((x 11 0) + j) (x 12 0) (x 12 0) (x 14 0) (x 15 0) (x 16 0) (x 17 0) (x 18 0) (x 19 0) (x 20 0) by have h8 := hX.2.1; unfold okR at h8 ⊢; omega), hX.2.2⟩)⟩) hP hD hS d_MO_fetch_294
                            · refine lv_aload_n hx hb d_MO_fetch_259 rfl (lv_at hl 2 rfl) ?_
                              refine lv_aload_n hx hb d_MO_fetch_260 rfl (lv_at hl 2 rfl) ?_
                              refine lv_aload_n hx hb d_MO_fetch_261 rfl (lv_at hl 2 rfl) ?_
                              refine va_get (D := D) (ci := 5) (v := .int (iI (x 11 0))) (C := R_MO) (T := T_MO) (N := 28) hx hb hT lays_MO hown hK hP 0 rfl rfl 14 (by decide) (hT _ tw_650) (fun _ h9 => h9) rfl d_MO_fetch_262 ?_
                              refine cx_iconst hx hb d_MO_fetch_265 ?_
                              refine cx_iadd hx hb d_MO_fetch_266 ?_
                              refine cx_cI (ws2 := fun _ => moW T q n (x 0) (x 1) (mkF (x 2) (x 18 0)) (cdF (x 2) (x 18 0)) (x 3) (x 4) ((x 11 0) + j) (x 12 0) (x 13 0) (x 14 0) (x 15 0) (x 16 0) (x 17 0) (x 18 0) (x 19 0) (x 20 0) (x 21 0) (x 22 0) (y 31 0) ((x 0) (x 11 0)) j (x 11 0) (x 12 0) (x 13 0) (y 37) (y 38) (y 39)) (cx_rV (q0 := 0) (ci := 5) (rest := [.ref (q 20)]) (As := [.int (iI ((x 11 0) + 4))]) hx hb hml hown hT hK hN hP hD hl.1 tw_771 k_MO_address (c_MO_address l D T H.size q n hn (up x 11 (cst ((x 11 0) + j))) (up (up (up (up (up y 32 (cst ((x 0) (x 11 0)))) 33 (cst j)) 34 (cst (x 11 0))) 35 (cst (x 12 0))) 36 (cst (x 13 0))) (show okX (up x 11 (cst ((x 11 0) + j))) from ⟨hX.1, (show okR ((x 11 0) + j) (x 12 0) (x 13 0) (x 14 0) (x 15 0) (x 16 0) (x 17 0) (x 18 0) (x 19 0) (x 20 0) by have h8 := hX.2.1; unfold okR at h8 ⊢; omega), hX.2.2⟩) ((x 11 0) + 4) (by omega)) ⟨by decide, by decide⟩ ⟨rfl, rfl⟩ [0, 1, 2, 3, 4, 5, 6, 7, 8, 9] (by decide) rfl rfl rfl rfl rfl (Nat.le_of_ble_eq_true rfl) ⟨Nat.zero_le _, Nat.zero_le _⟩ d_MO_fetch_267) hP hD hS hA [0, 1, 2, 3, 4, 5, 6, 7, 8, 9] [] [0, 1, 2, 3, 4, 5, 6, 7, 8, 9] rfl (wr := []) rfl (by decide) (by decide) (fun _ => rfl) (by decide) (fun r u_ H locs hq267 hP hD hS => ?_)
                              subst hq267
                              refine cx_eq (y := iI (adr (x 0) ((x 11 0) + 4))) rfl ?_
                              refine va_put (D := D) (ci := 5) (v := .int (iI (adr (x 0) ((x 11 0) + 4)))) (ty := .int) (C := R_MO) (T := T_MO) (N := 28) hx hb hT lays_MO t_MO t_MO_ok n_MO hown hK hP hD hS 0 rfl rfl 6 (by decide) (hT _ tw_642) (fun _ h9 => h9) rfl (by decide +kernel) rfl rfl (Nat.le_of_ble_eq_true rfl) d_MO_fetch_270 (fun H locs hP hD hS => ?_)
                              have hP : va_P D vwCl (moW T q n (x 0) (x 1) (mkF (x 2) (x 18 0)) (cdF (x 2) (x 18 0)) (x 3) (x 4) ((x 11 0) + j) (x 12 0) (adr (x 0) ((x 11 0) + 4)) (x 14 0) (x 15 0) (x 16 0) (x 17 0) (x 18 0) (x 19 0) (x 20 0) (x 21 0) (x 22 0) (y 31 0) ((x 0) (x 11 0)) j (x 11 0) (x 12 0) (x 13 0) (y 37) (y 38) (y 39)) H := hP
                              have hD : va_D A (moW T q n (x 0) (x 1) (mkF (x 2) (x 18 0)) (cdF (x 2) (x 18 0)) (x 3) (x 4) ((x 11 0) + j) (x 12 0) (adr (x 0) ((x 11 0) + 4)) (x 14 0) (x 15 0) (x 16 0) (x 17 0) (x 18 0) (x 19 0) (x 20 0) (x 21 0) (x 22 0) (y 31 0) ((x 0) (x 11 0)) j (x 11 0) (x 12 0) (x 13 0) (y 37) (y 38) (y 39)) := hD
                              refine lv_goto (tgt := 293) hx hb d_MO_fetch_273 rfl ?_
                              refine cx_iconst hx hb d_MO_fetch_293 ?_
                              exact hret (((up (up x 11 (cst ((x 11 0) + j))) 13 (cst (adr (x 0) ((x 11 0) + 4)))), (up (up (up (up (up y 32 (cst ((x 0) (x 11 0)))) 33 (cst j)) 34 (cst (x 11 0))) 35 (cst (x 12 0))) 36 (cst (x 13 0)))) : SX × SX) (Or.inr ⟨j, rfl, by omega, h114, by unfold stpS; rw [if_pos (by omega), if_pos (by omega)]; unfold stpK; rw [hk, if_neg (by omega), if_pos (show alv (x 0 (x 11 0)) j from h114)], by rw [show takS (x 0 (x 11 0)) j x = (up (up x 11 (cst ((x 11 0) + j))) 13 (cst (adr (x 0) ((x 11 0) + 4)))) by first | (exfalso; omega) | (unfold takS takA takB; repeat (first | rfl | (rw [if_pos (by omega)]) | (rw [if_neg (by omega)])))]; rfl, (show okX (up (up x 11 (cst ((x 11 0) + j))) 13 (cst (adr (x 0) ((x 11 0) + 4)))) from ⟨hX.1, (show okR ((x 11 0) + j) (x 12 0) (adr (x 0) ((x 11 0) + 4)) (x 14 0) (x 15 0) (x 16 0) (x 17 0) (x 18 0) (x 19 0) (x 20 0) by have h8 := hX.2.1; unfold okR at h8 ⊢; omega), hX.2.2⟩)⟩) hP hD hS d_MO_fetch_294
                          refine lv_aload_n hx hb d_MO_fetch_193 rfl (lv_at hl 1 rfl) ?_
                          refine va_get (D := D) (ci := 5) (v := .int (iI ((x 0) (x 11 0)))) (C := R_MO) (T := T_MO) (N := 28) hx hb hT lays_MO hown hK hP 0 rfl rfl 12 (by decide) (hT _ tw_648) (fun _ h9 => h9) rfl d_MO_fetch_194 ?_
                          refine cx_bipush hx hb d_MO_fetch_197 rfl ?_
                          refine cx_icmp_eq (tgt := 247) hx hb d_MO_fetch_199 rfl (by omega) (by omega) (fun h199 => ?_) (fun h199 => ?_)
                          · refine cx_iconst hx hb d_MO_fetch_247 ?_
                            refine lv_goto (tgt := 252) hx hb d_MO_fetch_248 rfl ?_
                            exact J252 1 (by omega)
                          · refine lv_aload_n hx hb d_MO_fetch_202 rfl (lv_at hl 1 rfl) ?_
                            refine va_get (D := D) (ci := 5) (v := .int (iI ((x 0) (x 11 0)))) (C := R_MO) (T := T_MO) (N := 28) hx hb hT lays_MO hown hK hP 0 rfl rfl 12 (by decide) (hT _ tw_648) (fun _ h9 => h9) rfl d_MO_fetch_203 ?_
                            refine cx_bipush hx hb d_MO_fetch_206 rfl ?_
                            refine cx_icmp_eq (tgt := 247) hx hb d_MO_fetch_208 rfl (by omega) (by omega) (fun h208 => ?_) (fun h208 => ?_)
                            · refine cx_iconst hx hb d_MO_fetch_247 ?_
                              refine lv_goto (tgt := 252) hx hb d_MO_fetch_248 rfl ?_
                              exact J252 1 (by omega)
                            · refine lv_aload_n hx hb d_MO_fetch_211 rfl (lv_at hl 1 rfl) ?_
                              refine va_get (D := D) (ci := 5) (v := .int (iI ((x 0) (x 11 0)))) (C := R_MO) (T := T_MO) (N := 28) hx hb hT lays_MO hown hK hP 0 rfl rfl 12 (by decide) (hT _ tw_648) (fun _ h9 => h9) rfl d_MO_fetch_212 ?_
                              refine cx_bipush hx hb d_MO_fetch_215 rfl ?_
                              refine cx_icmp_eq (tgt := 247) hx hb d_MO_fetch_217 rfl (by omega) (by omega) (fun h217 => ?_) (fun h217 => ?_)
                              · refine cx_iconst hx hb d_MO_fetch_247 ?_
                                refine lv_goto (tgt := 252) hx hb d_MO_fetch_248 rfl ?_
                                exact J252 1 (by omega)
                              · refine lv_aload_n hx hb d_MO_fetch_220 rfl (lv_at hl 1 rfl) ?_
                                refine va_get (D := D) (ci := 5) (v := .int (iI ((x 0) (x 11 0)))) (C := R_MO) (T := T_MO) (N := 28) hx hb hT lays_MO hown hK hP 0 rfl rfl 12 (by decide) (hT _ tw_648) (fun _ h9 => h9) rfl d_MO_fetch_221 ?_
                                refine cx_bipush hx hb d_MO_fetch_224 rfl ?_
                                refine cx_icmp_eq (tgt := 247) hx hb d_MO_fetch_226 rfl (by omega) (by omega) (fun h226 => ?_) (fun h226 => ?_)
                                · refine cx_iconst hx hb d_MO_fetch_247 ?_
                                  refine lv_goto (tgt := 252) hx hb d_MO_fetch_248 rfl ?_
                                  exact J252 1 (by omega)
                                · refine lv_aload_n hx hb d_MO_fetch_229 rfl (lv_at hl 1 rfl) ?_
                                  refine va_get (D := D) (ci := 5) (v := .int (iI ((x 0) (x 11 0)))) (C := R_MO) (T := T_MO) (N := 28) hx hb hT lays_MO hown hK hP 0 rfl rfl 12 (by decide) (hT _ tw_648) (fun _ h9 => h9) rfl d_MO_fetch_230 ?_
                                  refine cx_bipush hx hb d_MO_fetch_233 rfl ?_
                                  refine cx_icmp_eq (tgt := 247) hx hb d_MO_fetch_235 rfl (by omega) (by omega) (fun h235 => ?_) (fun h235 => ?_)
                                  · refine cx_iconst hx hb d_MO_fetch_247 ?_
                                    refine lv_goto (tgt := 252) hx hb d_MO_fetch_248 rfl ?_
                                    exact J252 1 (by omega)
                                  · refine lv_aload_n hx hb d_MO_fetch_238 rfl (lv_at hl 1 rfl) ?_
                                    refine va_get (D := D) (ci := 5) (v := .int (iI ((x 0) (x 11 0)))) (C := R_MO) (T := T_MO) (N := 28) hx hb hT lays_MO hown hK hP 0 rfl rfl 12 (by decide) (hT _ tw_648) (fun _ h9 => h9) rfl d_MO_fetch_239 ?_
                                    refine cx_bipush hx hb d_MO_fetch_242 rfl ?_
                                    refine cx_icmp_ne (tgt := 251) hx hb d_MO_fetch_244 rfl (by omega) (by omega) (fun h244 => ?_) (fun h244 => ?_)
                                    · refine cx_iconst hx hb d_MO_fetch_251 ?_
                                      exact J252 0 (by omega)
                                    · refine cx_iconst hx hb d_MO_fetch_247 ?_
                                      refine lv_goto (tgt := 252) hx hb d_MO_fetch_248 rfl ?_
                                      exact J252 1 (by omega)
                        · refine lv_aload_n hx hb d_MO_fetch_179 rfl (lv_at hl 1 rfl) ?_
                          refine lv_aload_n hx hb d_MO_fetch_180 rfl (lv_at hl 1 rfl) ?_
                          refine lv_aload_n hx hb d_MO_fetch_181 rfl (lv_at hl 1 rfl) ?_
                          refine va_get (D := D) (ci := 5) (v := .int (iI (x 11 0))) (C := R_MO) (T := T_MO) (N := 28) hx hb hT lays_MO hown hK hP 0 rfl rfl 14 (by decide) (hT _ tw_650) (fun _ h9 => h9) rfl d_MO_fetch_182 ?_
                          refine cx_iconst hx hb d_MO_fetch_185 ?_
                          refine cx_iadd hx hb d_MO_fetch_186 ?_
                          refine cx_cI (ws2 := fun _ => moW T q n (x 0) (x 1) (mkF (x 2) (x 18 0)) (cdF (x 2) (x 18 0)) (x 3) (x 4) ((x 11 0) + j) (x 12 0) (x 13 0) (x 14 0) (x 15 0) (x 16 0) (x 17 0) (x 18 0) (x 19 0) (x 20 0) (x 21 0) (x 22 0) (y 31 0) ((x 0) (x 11 0)) j (x 11 0) (x 12 0) (x 13 0) (y 37) (y 38) (y 39)) (cx_rV (q0 := 0) (ci := 5) (rest := [.ref (q 20)]) (As := [.int (iI ((x 11 0) + 1))]) hx hb hml hown hT hK hN hP hD hl.1 tw_771 k_MO_address (c_MO_address l D T H.size q n hn (up x 11 (cst ((x 11 0) + j))) (up (up (up (up (up y 32 (cst ((x 0) (x 11 0)))) 33 (cst j)) 34 (cst (x 11 0))) 35 (cst (x 12 0))) 36 (cst (x 13 0))) (show okX (up x 11 (cst ((x 11 0) + j))) from ⟨hX.1, (show okR ((x 11 0) + j) (x 12 0) (x 13 0) (x 14 0) (x 15 0) (x 16 0) (x 17 0) (x 18 0) (x 19 0) (x 20 0) by have h8 := hX.2.1; unfold okR at h8 ⊢; omega), hX.2.2⟩) ((x 11 0) + 1) (by omega)) ⟨by decide, by decide⟩ ⟨rfl, rfl⟩ [0, 1, 2, 3, 4, 5, 6, 7, 8, 9] (by decide) rfl rfl rfl rfl rfl (Nat.le_of_ble_eq_true rfl) ⟨Nat.zero_le _, Nat.zero_le _⟩ d_MO_fetch_187) hP hD hS hA [0, 1, 2, 3, 4, 5, 6, 7, 8, 9] [] [0, 1, 2, 3, 4, 5, 6, 7, 8, 9] rfl (wr := []) rfl (by decide) (by decide) (fun _ => rfl) (by decide) (fun r u_ H locs hq187 hP hD hS => ?_)
                          subst hq187
                          refine cx_eq (y := iI (adr (x 0) ((x 11 0) + 1))) rfl ?_
                          refine va_put (D := D) (ci := 5) (v := .int (iI (adr (x 0) ((x 11 0) + 1)))) (ty := .int) (C := R_MO) (T := T_MO) (N := 28) hx hb hT lays_MO t_MO t_MO_ok n_MO hown hK hP hD hS 0 rfl rfl 5 (by decide) (hT _ tw_641) (fun _ h9 => h9) rfl (by decide +kernel) rfl rfl (Nat.le_of_ble_eq_true rfl) d_MO_fetch_190 (fun H locs hP hD hS => ?_)
                          have hP : va_P D vwCl (moW T q n (x 0) (x 1) (mkF (x 2) (x 18 0)) (cdF (x 2) (x 18 0)) (x 3) (x 4) ((x 11 0) + j) (adr (x 0) ((x 11 0) + 1)) (x 13 0) (x 14 0) (x 15 0) (x 16 0) (x 17 0) (x 18 0) (x 19 0) (x 20 0) (x 21 0) (x 22 0) (y 31 0) ((x 0) (x 11 0)) j (x 11 0) (x 12 0) (x 13 0) (y 37) (y 38) (y 39)) H := hP
                          have hD : va_D A (moW T q n (x 0) (x 1) (mkF (x 2) (x 18 0)) (cdF (x 2) (x 18 0)) (x 3) (x 4) ((x 11 0) + j) (adr (x 0) ((x 11 0) + 1)) (x 13 0) (x 14 0) (x 15 0) (x 16 0) (x 17 0) (x 18 0) (x 19 0) (x 20 0) (x 21 0) (x 22 0) (y 31 0) ((x 0) (x 11 0)) j (x 11 0) (x 12 0) (x 13 0) (y 37) (y 38) (y 39)) := hD
                          have J252 : ∀ v252 : Int, ((v252 = 1 ∧ (x 0 (x 11 0) = 36 ∨ x 0 (x 11 0) = 35 ∨ x 0 (x 11 0) = 52 ∨ x 0 (x 11 0) = 24 ∨ x 0 (x 11 0) = 40 ∨ x 0 (x 11 0) = 56)) ∨ (v252 = 0 ∧ ¬ (x 0 (x 11 0) = 36 ∨ x 0 (x 11 0) = 35 ∨ x 0 (x 11 0) = 52 ∨ x 0 (x 11 0) = 24 ∨ x 0 (x 11 0) = 40 ∨ x 0 (x 11 0) = 56))) → W p l e (rmK 2) s m ([.ref (q 20)] : List Value).toArray below meth cd H locs 0 0 Q (F0 m 252 ls [.int (iI v252)]) := by
                            intro v252 hv252
                            refine lv_istore_n (lv' := [(2, .int (iI (v252))), (1, .int (iI (j))), (0, .ref (q 20))]) hx hb d_MO_fetch_252 rfl hl (by decide) rfl (fun ls hl => ?_)
                            refine lv_iload_n hx hb d_MO_fetch_253 rfl (lv_at hl 1 rfl) ?_
                            refine cx_bipush hx hb d_MO_fetch_254 rfl ?_
                            refine cx_icmp_lt (tgt := 276) hx hb d_MO_fetch_256 rfl (by omega) (by omega) (fun h256 => ?_) (fun h256 => ?_)
                            · refine lv_iload_n hx hb d_MO_fetch_276 rfl (lv_at hl 1 rfl) ?_
                              refine cx_iconst hx hb d_MO_fetch_277 ?_
                              refine cx_icmp_lt (tgt := 293) hx hb d_MO_fetch_278 rfl (by omega) (by omega) (fun h278 => ?_) (fun h278 => ?_)
                              · refine cx_iconst hx hb d_MO_fetch_293 ?_
                                exact hret (((up (up x 11 (cst ((x 11 0) + j))) 12 (cst (adr (x 0) ((x 11 0) + 1)))), (up (up (up (up (up y 32 (cst ((x 0) (x 11 0)))) 33 (cst j)) 34 (cst (x 11 0))) 35 (cst (x 12 0))) 36 (cst (x 13 0)))) : SX × SX) (Or.inr ⟨j, rfl, by omega, h114, by unfold stpS; rw [if_pos (by omega), if_pos (by omega)]; unfold stpK; rw [hk, if_neg (by omega), if_pos (show alv (x 0 (x 11 0)) j from h114)], by rw [show takS (x 0 (x 11 0)) j x = (up (up x 11 (cst ((x 11 0) + j))) 12 (cst (adr (x 0) ((x 11 0) + 1)))) by first | (exfalso; omega) | (unfold takS takA takB; repeat (first | rfl | (rw [if_pos (by omega)]) | (rw [if_neg (by omega)])))]; rfl, (show okX (up (up x 11 (cst ((x 11 0) + j))) 12 (cst (adr (x 0) ((x 11 0) + 1)))) from ⟨hX.1, (show okR ((x 11 0) + j) (adr (x 0) ((x 11 0) + 1)) (x 13 0) (x 14 0) (x 15 0) (x 16 0) (x 17 0) (x 18 0) (x 19 0) (x 20 0) by have h8 := hX.2.1; unfold okR at h8 ⊢; omega), hX.2.2⟩)⟩) hP hD hS d_MO_fetch_294
                              · refine lv_iload_n hx hb d_MO_fetch_281 rfl (lv_at hl 0 rfl) ?_
                                refine cx_if_ne (tgt := 293) hx hb d_MO_fetch_282 rfl (by omega) (fun h282 => ?_) (fun h282 => ?_)
                                · refine cx_iconst hx hb d_MO_fetch_293 ?_
                                  exact hret (((up (up x 11 (cst ((x 11 0) + j))) 12 (cst (adr (x 0) ((x 11 0) + 1)))), (up (up (up (up (up y 32 (cst ((x 0) (x 11 0)))) 33 (cst j)) 34 (cst (x 11 0))) 35 (cst (x 12 0))) 36 (cst (x 13 0)))) : SX × SX) (Or.inr ⟨j, rfl, by omega, h114, by unfold stpS; rw [if_pos (by omega), if_pos (by omega)]; unfold stpK; rw [hk, if_neg (by omega), if_pos (show alv (x 0 (x 11 0)) j from h114)], by rw [show takS (x 0 (x 11 0)) j x = (up (up x 11 (cst ((x 11 0) + j))) 12 (cst (adr (x 0) ((x 11 0) + 1)))) by first | (exfalso; omega) | (unfold takS takA takB; repeat (first | rfl | (rw [if_pos (by omega)]) | (rw [if_neg (by omega)])))]; rfl, (show okX (up (up x 11 (cst ((x 11 0) + j))) 12 (cst (adr (x 0) ((x 11 0) + 1)))) from ⟨hX.1, (show okR ((x 11 0) + j) (adr (x 0) ((x 11 0) + 1)) (x 13 0) (x 14 0) (x 15 0) (x 16 0) (x 17 0) (x 18 0) (x 19 0) (x 20 0) by have h8 := hX.2.1; unfold okR at h8 ⊢; omega), hX.2.2⟩)⟩) hP hD hS d_MO_fetch_294
                                · refine lv_aload_n hx hb d_MO_fetch_285 rfl (lv_at hl 2 rfl) ?_
                                  refine lv_aload_n hx hb d_MO_fetch_286 rfl (lv_at hl 2 rfl) ?_
                                  refine va_get (D := D) (ci := 5) (v := .int (iI (adr (x 0) ((x 11 0) + 1)))) (C := R_MO) (T := T_MO) (N := 28) hx hb hT lays_MO hown hK hP 0 rfl rfl 5 (by decide) (hT _ tw_641) (fun _ h9 => h9) rfl d_MO_fetch_287 ?_
                                  refine va_put (D := D) (ci := 5) (v := .int (iI (adr (x 0) ((x 11 0) + 1)))) (ty := .int) (C := R_MO) (T := T_MO) (N := 28) hx hb hT lays_MO t_MO t_MO_ok n_MO hown hK hP hD hS 0 rfl rfl 6 (by decide) (hT _ tw_642) (fun _ h9 => h9) rfl (by decide +kernel) rfl rfl (Nat.le_of_ble_eq_true rfl) d_MO_fetch_290 (fun H locs hP hD hS => ?_)
                                  have hP : va_P D vwCl (moW T q n (x 0) (x 1) (mkF (x 2) (x 18 0)) (cdF (x 2) (x 18 0)) (x 3) (x 4) ((x 11 0) + j) (adr (x 0) ((x 11 0) + 1)) (adr (x 0) ((x 11 0) + 1)) (x 14 0) (x 15 0) (x 16 0) (x 17 0) (x 18 0) (x 19 0) (x 20 0) (x 21 0) (x 22 0) (y 31 0) ((x 0) (x 11 0)) j (x 11 0) (x 12 0) (x 13 0) (y 37) (y 38) (y 39)) H := hP
                                  have hD : va_D A (moW T q n (x 0) (x 1) (mkF (x 2) (x 18 0)) (cdF (x 2) (x 18 0)) (x 3) (x 4) ((x 11 0) + j) (adr (x 0) ((x 11 0) + 1)) (adr (x 0) ((x 11 0) + 1)) (x 14 0) (x 15 0) (x 16 0) (x 17 0) (x 18 0) (x 19 0) (x 20 0) (x 21 0) (x 22 0) (y 31 0) ((x 0) (x 11 0)) j (x 11 0) (x 12 0) (x 13 0) (y 37) (y 38) (y 39)) := hD
                                  refine cx_iconst hx hb d_MO_fetch_293 ?_
                                  exact hret (((up (up (up x 11 (cst ((x 11 0) + j))) 12 (cst (adr (x 0) ((x 11 0) + 1)))) 13 (cst (adr (x 0) ((x 11 0) + 1)))), (up (up (up (up (up y 32 (cst ((x 0) (x 11 0)))) 33 (cst j)) 34 (cst (x 11 0))) 35 (cst (x 12 0))) 36 (cst (x 13 0)))) : SX × SX) (Or.inr ⟨j, rfl, by omega, h114, by unfold stpS; rw [if_pos (by omega), if_pos (by omega)]; unfold stpK; rw [hk, if_neg (by omega), if_pos (show alv (x 0 (x 11 0)) j from h114)], by rw [show takS (x 0 (x 11 0)) j x = (up (up (up x 11 (cst ((x 11 0) + j))) 12 (cst (adr (x 0) ((x 11 0) + 1)))) 13 (cst (adr (x 0) ((x 11 0) + 1)))) by first | (exfalso; omega) | (unfold takS takA takB; repeat (first | rfl | (rw [if_pos (by omega)]) | (rw [if_neg (by omega)])))]; rfl, (show okX (up (up (up x 11 (cst ((x 11 0) + j))) 12 (cst (adr (x 0) ((x 11 0) + 1)))) 13 (cst (adr (x 0) ((x 11 0) + 1)))) from ⟨hX.1, (show okR ((x 11 0) + j) (adr (x 0) ((x 11 0) + 1)) (adr (x 0) ((x 11 0) + 1)) (x 14 0) (x 15 0) (x 16 0) (x 17 0) (x 18 0) (x 19 0) (x 20 0) by have h8 := hX.2.1; unfold okR at h8 ⊢; omega), hX.2.2⟩)⟩) hP hD hS d_MO_fetch_294
                            · refine lv_aload_n hx hb d_MO_fetch_259 rfl (lv_at hl 2 rfl) ?_
                              refine lv_aload_n hx hb d_MO_fetch_260 rfl (lv_at hl 2 rfl) ?_
                              refine lv_aload_n hx hb d_MO_fetch_261 rfl (lv_at hl 2 rfl) ?_
                              refine va_get (D := D) (ci := 5) (v := .int (iI (x 11 0))) (C := R_MO) (T := T_MO) (N := 28) hx hb hT lays_MO hown hK hP 0 rfl rfl 14 (by decide) (hT _ tw_650) (fun _ h9 => h9) rfl d_MO_fetch_262 ?_
                              refine cx_iconst hx hb d_MO_fetch_265 ?_
                              refine cx_iadd hx hb d_MO_fetch_266 ?_
                              refine cx_cI (ws2 := fun _ => moW T q n (x 0) (x 1) (mkF (x 2) (x 18 0)) (cdF (x 2) (x 18 0)) (x 3) (x 4) ((x 11 0) + j) (adr (x 0) ((x 11 0) + 1)) (x 13 0) (x 14 0) (x 15 0) (x 16 0) (x 17 0) (x 18 0) (x 19 0) (x 20 0) (x 21 0) (x 22 0) (y 31 0) ((x 0) (x 11 0)) j (x 11 0) (x 12 0) (x 13 0) (y 37) (y 38) (y 39)) (cx_rV (q0 := 0) (ci := 5) (rest := [.ref (q 20)]) (As := [.int (iI ((x 11 0) + 4))]) hx hb hml hown hT hK hN hP hD hl.1 tw_771 k_MO_address (c_MO_address l D T H.size q n hn (up (up x 11 (cst ((x 11 0) + j))) 12 (cst (adr (x 0) ((x 11 0) + 1)))) (up (up (up (up (up y 32 (cst ((x 0) (x 11 0)))) 33 (cst j)) 34 (cst (x 11 0))) 35 (cst (x 12 0))) 36 (cst (x 13 0))) (show okX (up (up x 11 (cst ((x 11 0) + j))) 12 (cst (adr (x 0) ((x 11 0) + 1)))) from ⟨hX.1, (show okR ((x 11 0) + j) (adr (x 0) ((x 11 0) + 1)) (x 13 0) (x 14 0) (x 15 0) (x 16 0) (x 17 0) (x 18 0) (x 19 0) (x 20 0) by have h8 := hX.2.1; unfold okR at h8 ⊢; omega), hX.2.2⟩) ((x 11 0) + 4) (by omega)) ⟨by decide, by decide⟩ ⟨rfl, rfl⟩ [0, 1, 2, 3, 4, 5, 6, 7, 8, 9] (by decide) rfl rfl rfl rfl rfl (Nat.le_of_ble_eq_true rfl) ⟨Nat.zero_le _, Nat.zero_le _⟩ d_MO_fetch_267) hP hD hS hA [0, 1, 2, 3, 4, 5, 6, 7, 8, 9] [] [0, 1, 2, 3, 4, 5, 6, 7, 8, 9] rfl (wr := []) rfl (by decide) (by decide) (fun _ => rfl) (by decide) (fun r u_ H locs hq267 hP hD hS => ?_)
                              subst hq267
                              refine cx_eq (y := iI (adr (x 0) ((x 11 0) + 4))) rfl ?_
                              refine va_put (D := D) (ci := 5) (v := .int (iI (adr (x 0) ((x 11 0) + 4)))) (ty := .int) (C := R_MO) (T := T_MO) (N := 28) hx hb hT lays_MO t_MO t_MO_ok n_MO hown hK hP hD hS 0 rfl rfl 6 (by decide) (hT _ tw_642) (fun _ h9 => h9) rfl (by decide +kernel) rfl rfl (Nat.le_of_ble_eq_true rfl) d_MO_fetch_270 (fun H locs hP hD hS => ?_)
                              have hP : va_P D vwCl (moW T q n (x 0) (x 1) (mkF (x 2) (x 18 0)) (cdF (x 2) (x 18 0)) (x 3) (x 4) ((x 11 0) + j) (adr (x 0) ((x 11 0) + 1)) (adr (x 0) ((x 11 0) + 4)) (x 14 0) (x 15 0) (x 16 0) (x 17 0) (x 18 0) (x 19 0) (x 20 0) (x 21 0) (x 22 0) (y 31 0) ((x 0) (x 11 0)) j (x 11 0) (x 12 0) (x 13 0) (y 37) (y 38) (y 39)) H := hP
                              have hD : va_D A (moW T q n (x 0) (x 1) (mkF (x 2) (x 18 0)) (cdF (x 2) (x 18 0)) (x 3) (x 4) ((x 11 0) + j) (adr (x 0) ((x 11 0) + 1)) (adr (x 0) ((x 11 0) + 4)) (x 14 0) (x 15 0) (x 16 0) (x 17 0) (x 18 0) (x 19 0) (x 20 0) (x 21 0) (x 22 0) (y 31 0) ((x 0) (x 11 0)) j (x 11 0) (x 12 0) (x 13 0) (y 37) (y 38) (y 39)) := hD
                              refine lv_goto (tgt := 293) hx hb d_MO_fetch_273 rfl ?_
                              refine cx_iconst hx hb d_MO_fetch_293 ?_
                              exact hret (((up (up (up x 11 (cst ((x 11 0) + j))) 12 (cst (adr (x 0) ((x 11 0) + 1)))) 13 (cst (adr (x 0) ((x 11 0) + 4)))), (up (up (up (up (up y 32 (cst ((x 0) (x 11 0)))) 33 (cst j)) 34 (cst (x 11 0))) 35 (cst (x 12 0))) 36 (cst (x 13 0)))) : SX × SX) (Or.inr ⟨j, rfl, by omega, h114, by unfold stpS; rw [if_pos (by omega), if_pos (by omega)]; unfold stpK; rw [hk, if_neg (by omega), if_pos (show alv (x 0 (x 11 0)) j from h114)], by rw [show takS (x 0 (x 11 0)) j x = (up (up (up x 11 (cst ((x 11 0) + j))) 12 (cst (adr (x 0) ((x 11 0) + 1)))) 13 (cst (adr (x 0) ((x 11 0) + 4)))) by first | (exfalso; omega) | (unfold takS takA takB; repeat (first | rfl | (rw [if_pos (by omega)]) | (rw [if_neg (by omega)])))]; rfl, (show okX (up (up (up x 11 (cst ((x 11 0) + j))) 12 (cst (adr (x 0) ((x 11 0) + 1)))) 13 (cst (adr (x 0) ((x 11 0) + 4)))) from ⟨hX.1, (show okR ((x 11 0) + j) (adr (x 0) ((x 11 0) + 1)) (adr (x 0) ((x 11 0) + 4)) (x 14 0) (x 15 0) (x 16 0) (x 17 0) (x 18 0) (x 19 0) (x 20 0) by have h8 := hX.2.1; unfold okR at h8 ⊢; omega), hX.2.2⟩)⟩) hP hD hS d_MO_fetch_294
                          refine lv_aload_n hx hb d_MO_fetch_193 rfl (lv_at hl 1 rfl) ?_
                          refine va_get (D := D) (ci := 5) (v := .int (iI ((x 0) (x 11 0)))) (C := R_MO) (T := T_MO) (N := 28) hx hb hT lays_MO hown hK hP 0 rfl rfl 12 (by decide) (hT _ tw_648) (fun _ h9 => h9) rfl d_MO_fetch_194 ?_
                          refine cx_bipush hx hb d_MO_fetch_197 rfl ?_
                          refine cx_icmp_eq (tgt := 247) hx hb d_MO_fetch_199 rfl (by omega) (by omega) (fun h199 => ?_) (fun h199 => ?_)
                          · refine cx_iconst hx hb d_MO_fetch_247 ?_
                            refine lv_goto (tgt := 252) hx hb d_MO_fetch_248 rfl ?_
                            exact J252 1 (by omega)
                          · refine lv_aload_n hx hb d_MO_fetch_202 rfl (lv_at hl 1 rfl) ?_
                            refine va_get (D := D) (ci := 5) (v := .int (iI ((x 0) (x 11 0)))) (C := R_MO) (T := T_MO) (N := 28) hx hb hT lays_MO hown hK hP 0 rfl rfl 12 (by decide) (hT _ tw_648) (fun _ h9 => h9) rfl d_MO_fetch_203 ?_
                            refine cx_bipush hx hb d_MO_fetch_206 rfl ?_
                            refine cx_icmp_eq (tgt := 247) hx hb d_MO_fetch_208 rfl (by omega) (by omega) (fun h208 => ?_) (fun h208 => ?_)
                            · refine cx_iconst hx hb d_MO_fetch_247 ?_
                              refine lv_goto (tgt := 252) hx hb d_MO_fetch_248 rfl ?_
                              exact J252 1 (by omega)
                            · refine lv_aload_n hx hb d_MO_fetch_211 rfl (lv_at hl 1 rfl) ?_
                              refine va_get (D := D) (ci := 5) (v := .int (iI ((x 0) (x 11 0)))) (C := R_MO) (T := T_MO) (N := 28) hx hb hT lays_MO hown hK hP 0 rfl rfl 12 (by decide) (hT _ tw_648) (fun _ h9 => h9) rfl d_MO_fetch_212 ?_
                              refine cx_bipush hx hb d_MO_fetch_215 rfl ?_
                              refine cx_icmp_eq (tgt := 247) hx hb d_MO_fetch_217 rfl (by omega) (by omega) (fun h217 => ?_) (fun h217 => ?_)
                              · refine cx_iconst hx hb d_MO_fetch_247 ?_
                                refine lv_goto (tgt := 252) hx hb d_MO_fetch_248 rfl ?_
                                exact J252 1 (by omega)
                              · refine lv_aload_n hx hb d_MO_fetch_220 rfl (lv_at hl 1 rfl) ?_
                                refine va_get (D := D) (ci := 5) (v := .int (iI ((x 0) (x 11 0)))) (C := R_MO) (T := T_MO) (N := 28) hx hb hT lays_MO hown hK hP 0 rfl rfl 12 (by decide) (hT _ tw_648) (fun _ h9 => h9) rfl d_MO_fetch_221 ?_
                                refine cx_bipush hx hb d_MO_fetch_224 rfl ?_
                                refine cx_icmp_eq (tgt := 247) hx hb d_MO_fetch_226 rfl (by omega) (by omega) (fun h226 => ?_) (fun h226 => ?_)
                                · refine cx_iconst hx hb d_MO_fetch_247 ?_
                                  refine lv_goto (tgt := 252) hx hb d_MO_fetch_248 rfl ?_
                                  exact J252 1 (by omega)
                                · refine lv_aload_n hx hb d_MO_fetch_229 rfl (lv_at hl 1 rfl) ?_
                                  refine va_get (D := D) (ci := 5) (v := .int (iI ((x 0) (x 11 0)))) (C := R_MO) (T := T_MO) (N := 28) hx hb hT lays_MO hown hK hP 0 rfl rfl 12 (by decide) (hT _ tw_648) (fun _ h9 => h9) rfl d_MO_fetch_230 ?_
                                  refine cx_bipush hx hb d_MO_fetch_233 rfl ?_
                                  refine cx_icmp_eq (tgt := 247) hx hb d_MO_fetch_235 rfl (by omega) (by omega) (fun h235 => ?_) (fun h235 => ?_)
                                  · refine cx_iconst hx hb d_MO_fetch_247 ?_
                                    refine lv_goto (tgt := 252) hx hb d_MO_fetch_248 rfl ?_
                                    exact J252 1 (by omega)
                                  · refine lv_aload_n hx hb d_MO_fetch_238 rfl (lv_at hl 1 rfl) ?_
                                    refine va_get (D := D) (ci := 5) (v := .int (iI ((x 0) (x 11 0)))) (C := R_MO) (T := T_MO) (N := 28) hx hb hT lays_MO hown hK hP 0 rfl rfl 12 (by decide) (hT _ tw_648) (fun _ h9 => h9) rfl d_MO_fetch_239 ?_
                                    refine cx_bipush hx hb d_MO_fetch_242 rfl ?_
                                    refine cx_icmp_ne (tgt := 251) hx hb d_MO_fetch_244 rfl (by omega) (by omega) (fun h244 => ?_) (fun h244 => ?_)
                                    · refine cx_iconst hx hb d_MO_fetch_251 ?_
                                      exact J252 0 (by omega)
                                    · refine cx_iconst hx hb d_MO_fetch_247 ?_
                                      refine lv_goto (tgt := 252) hx hb d_MO_fetch_248 rfl ?_
                                      exact J252 1 (by omega)
                      · refine cx_if_ne (tgt := 122) hx hb d_MO_fetch_117 rfl (by omega) (fun h0 => absurd h0 (by decide)) (fun _ => ?_)
                        refine cx_iconst hx hb d_MO_fetch_120 ?_
                        exact hret ((x, y) : SX × SX) (Or.inl ⟨3, rfl, by decide, by unfold stpS; rw [if_pos (by omega), if_pos (by omega)]; unfold stpK; rw [hk, if_neg (by omega), if_neg (show ¬ alv (x 0 (x 11 0)) j from h114)], rfl⟩) hP hD hS d_MO_fetch_121
                    · exfalso; omega
                · refine cx_iinc (k := 0) (lv' := [(1, .int (iI (j + 1))), (0, .ref (q 20))]) hx hb d_MO_fetch_79 hl rfl (by decide) rfl (fun ls hl => ?_)
                  refine lv_goto (tgt := 29) hx hb d_MO_fetch_82 rfl ?_
                  exact ih1 (j + 1) _ _ _ (by omega) (by rw [hf, ins, if_pos (by omega), if_neg (by omega)]) hP hD hS (lv_sub hl [0, 1] rfl)
              · exfalso; omega
            · refine cx_if_eq (tgt := 85) hx hb d_MO_fetch_45 rfl (by omega) (fun _ => ?_) (fun h0 => absurd h0 (by decide))
              refine lv_iload_n hx hb d_MO_fetch_85 rfl (lv_at hl 0 rfl) ?_
              refine cx_bipush hx hb d_MO_fetch_86 rfl ?_
              refine cx_icmp_eq (tgt := 120) hx hb d_MO_fetch_88 rfl (by omega) (by omega) (fun h88 => ?_) (fun h88 => ?_)
              · refine cx_iconst hx hb d_MO_fetch_120 ?_
                exact hret ((x, y) : SX × SX) (Or.inl ⟨3, rfl, by decide, by unfold stpS; rw [if_pos (by omega), if_pos (by omega)]; unfold stpK; rw [show ins n (x 1) (x 11 0) 9 1 = 0 by rw [hf, ins, if_neg (by omega)], if_pos rfl], rfl⟩) hP hD hS d_MO_fetch_121
              · refine lv_aload_n hx hb d_MO_fetch_91 rfl (lv_at hl 1 rfl) ?_
                refine lv_aload_n hx hb d_MO_fetch_92 rfl (lv_at hl 1 rfl) ?_
                refine va_get (D := D) (ci := 5) (v := .int (iI (x 11 0))) (C := R_MO) (T := T_MO) (N := 28) hx hb hT lays_MO hown hK hP 0 rfl rfl 4 (by decide) (hT _ tw_640) (fun _ h9 => h9) rfl d_MO_fetch_93 ?_
                refine lv_iload_n hx hb d_MO_fetch_96 rfl (lv_at hl 0 rfl) ?_
                refine cx_iadd hx hb d_MO_fetch_97 ?_
                refine cx_cI (ws2 := fun _ => moW T q n (x 0) (x 1) (mkF (x 2) (x 18 0)) (cdF (x 2) (x 18 0)) (x 3) (x 4) (x 11 0) (x 12 0) (x 13 0) (x 14 0) (x 15 0) (x 16 0) (x 17 0) (x 18 0) (x 19 0) (x 20 0) (x 21 0) (x 22 0) (y 31 0) (y 32 0) (y 33 0) (y 34 0) (y 35 0) (y 36 0) (y 37) (y 38) (y 39)) (cx_rV (q0 := 0) (ci := 5) (rest := []) (As := [.int (iI ((x 11 0) + j))]) hx hb hml hown hT hK hN hP hD hl.1 tw_731 k_MO_is (c_MO_is l D T H.size q n hn x y hX ((x 11 0) + j) (by omega)) ⟨by decide, by decide⟩ ⟨rfl, rfl⟩ [0, 1, 2, 3, 4, 5, 6, 7, 8, 9] (by decide) rfl rfl rfl rfl rfl (Nat.le_of_ble_eq_true rfl) ⟨Nat.zero_le _, Nat.zero_le _⟩ d_MO_fetch_98) hP hD hS hA [0, 1, 2, 3, 4, 5, 6, 7, 8, 9] [] [0, 1, 2, 3, 4, 5, 6, 7, 8, 9] rfl (wr := []) rfl (by decide) (by decide) (fun _ => rfl) (by decide) (fun r u_ H locs hq98 hP hD hS => ?_)
                rcases hq98 with ⟨rfl, h98⟩ | ⟨rfl, h98⟩
                · exfalso; omega
                · refine cx_if_eq (tgt := 120) hx hb d_MO_fetch_101 rfl (by omega) (fun _ => ?_) (fun h0 => absurd h0 (by decide))
                  refine cx_iconst hx hb d_MO_fetch_120 ?_
                  exact hret ((x, y) : SX × SX) (Or.inl ⟨3, rfl, by decide, by unfold stpS; rw [if_pos (by omega), if_pos (by omega)]; unfold stpK; rw [show ins n (x 1) (x 11 0) 9 1 = 0 by rw [hf, ins, if_neg (by omega)], if_pos rfl], rfl⟩) hP hD hS d_MO_fetch_121
      exact L1 9 1 _ _ _ (by omega) rfl hP hD hS (lv_sub hl [0, 1] rfl)
    · refine cx_iconst hx hb d_MO_fetch_25 ?_
      exact hret ((x, y) : SX × SX) (Or.inl ⟨1, rfl, by decide, by unfold stpS; rw [if_pos (by omega), if_neg (by omega)], rfl⟩) hP hD hS d_MO_fetch_26
  · refine cx_if_ne (tgt := 13) hx hb d_MO_fetch_8 rfl (by omega) (fun h0 => absurd h0 (by decide)) (fun _ => ?_)
    refine cx_iconst hx hb d_MO_fetch_11 ?_
    exact hret ((x, y) : SX × SX) (Or.inl ⟨2, rfl, by decide, by unfold stpS; rw [if_neg (by omega)], rfl⟩) hP hD hS d_MO_fetch_12
