/-! the reference: keepRegister -/
set_option maxHeartbeats 4000000 in
set_option maxRecDepth 100000 in
theorem c_MO_keepRegister (l : Launch) (D : va_G) (T : Nat → ClassId) (sz : Nat) (q : Nat → Nat) (n : Nat) (hn : 400 ≤ n ∧ n ≤ 2000) (x y : SX) (hX : okX x) (hY : (0 ≤ y 32 0 ∧ y 32 0 < 64) ∧ (1 ≤ y 33 0 ∧ y 33 0 ≤ 8)) (hH : (-1 ≤ y 35 0 ∧ y 35 0 ≤ 16000) ∧ (-1 ≤ y 36 0 ∧ y 36 0 ≤ 16000)) (hB : y 36 0 = x 13 0) : MI l y_MO_keepRegister (wY y_MO_keepRegister b_MO_keepRegister 3 (some .int)) (rmK 1) D vwCl (tyL T) nwL sz [.ref (q 20)] (moW T q n (x 0) (x 1) (mkF (x 2) (x 18 0)) (cdF (x 2) (x 18 0)) (x 3) (x 4) (x 11 0) (x 12 0) (x 13 0) (x 14 0) (x 15 0) (x 16 0) (x 17 0) (x 18 0) (x 19 0) (x 20 0) (x 21 0) (x 22 0) (y 31 0) (y 32 0) (y 33 0) (y 34 0) (y 35 0) (y 36 0) (y 37) (y 38) (y 39)) (fun r (u : SX × SX) => pst (staS n (if y 32 0 = 40 then y 35 0 else y 36 0) x) r u.1 ∧ (u.2 31 = y 31 ∧ u.2 33 = y 33)) (fun (u : SX × SX) => moX T q n u.1 u.2) := by
  refine cx_inI (by decide) rfl (Nat.le_of_ble_eq_true rfl) ?_
  intro p e s m below meth cd ls A Q hx hb hml hT hown hret hP hK hD hN hS hA hl
  have hown : s.vm.findClass R_MO = some m.cls := hown
  have hl : lv_has ls 3 [(0, .ref (q 20))] := hl
  have hC := hX.1
  have hR0 := hX.2.1
  have hF := hX.2.2
  unfold okR at hR0
  refine lv_aload_n hx hb d_MO_keepRegister_0 rfl (lv_at hl 0 rfl) ?_
  refine lv_aload_n hx hb d_MO_keepRegister_1 rfl (lv_at hl 0 rfl) ?_
  refine va_get (D := D) (ci := 5) (v := .int (iI (x 12 0))) (C := R_MO) (T := T_MO) (N := 28) hx hb hT lays_MO hown hK hP 0 rfl rfl 5 (by decide) (hT _ tw_641) (fun _ h9 => h9) rfl d_MO_keepRegister_2 ?_
  refine cx_cI (ws2 := fun _ => moW T q n (x 0) (x 1) (mkF (x 2) (x 18 0)) (cdF (x 2) (x 18 0)) (x 3) (x 4) (x 11 0) (x 12 0) (x 13 0) (x 14 0) (x 15 0) (x 16 0) (x 17 0) (x 18 0) (x 19 0) (x 20 0) (x 21 0) (x 22 0) (y 31 0) (y 32 0) (y 33 0) (y 34 0) (y 35 0) (y 36 0) (y 37) (y 38) (y 39)) (cx_rV (q0 := 0) (ci := 5) (rest := []) (As := [.int (iI (x 12 0))]) hx hb hml hown hT hK hN hP hD hl.1 tw_731 k_MO_is (c_MO_is l D T s.heap.size q n hn x y hX (x 12 0) (by omega)) ⟨by decide, by decide⟩ ⟨rfl, rfl⟩ [0, 1, 2, 3, 4, 5, 6, 7, 8, 9] (by decide) rfl rfl rfl rfl rfl (Nat.le_of_ble_eq_true rfl) ⟨Nat.zero_le _, Nat.zero_le _⟩ d_MO_keepRegister_5) hP hD hS hA [0, 1, 2, 3, 4, 5, 6, 7, 8, 9] [] [0, 1, 2, 3, 4, 5, 6, 7, 8, 9] rfl (wr := []) rfl (by decide) (by decide) (fun _ => rfl) (by decide) (fun r u_ H locs hq5 hP hD hS => ?_)
  rcases hq5 with ⟨rfl, h5⟩ | ⟨rfl, h5⟩
  · refine cx_if_eq (tgt := 24) hx hb d_MO_keepRegister_8 rfl (by omega) (fun h0 => absurd h0 (by decide)) (fun _ => ?_)
    refine lv_aload_n hx hb d_MO_keepRegister_11 rfl (lv_at hl 0 rfl) ?_
    refine lv_aload_n hx hb d_MO_keepRegister_12 rfl (lv_at hl 0 rfl) ?_
    refine va_get (D := D) (ci := 5) (v := .int (iI (x 12 0))) (C := R_MO) (T := T_MO) (N := 28) hx hb hT lays_MO hown hK hP 0 rfl rfl 5 (by decide) (hT _ tw_641) (fun _ h9 => h9) rfl d_MO_keepRegister_13 ?_
    refine cx_iconst hx hb d_MO_keepRegister_16 ?_
    refine cx_isub hx hb d_MO_keepRegister_17 ?_
    refine cx_cI (ws2 := fun _ => moW T q n (x 0) (x 1) (mkF (x 2) (x 18 0)) (cdF (x 2) (x 18 0)) (x 3) (x 4) (x 11 0) (x 12 0) (x 13 0) (x 14 0) (x 15 0) (x 16 0) (x 17 0) (x 18 0) (x 19 0) (x 20 0) (x 21 0) (x 22 0) (y 31 0) (y 32 0) (y 33 0) (y 34 0) (y 35 0) (y 36 0) (y 37) (y 38) (y 39)) (cx_rV (q0 := 0) (ci := 5) (rest := []) (As := [.int (iI ((x 12 0) - 2))]) hx hb hml hown hT hK hN hP hD hl.1 tw_731 k_MO_is (c_MO_is l D T H.size q n hn x y hX ((x 12 0) - 2) (by omega)) ⟨by decide, by decide⟩ ⟨rfl, rfl⟩ [0, 1, 2, 3, 4, 5, 6, 7, 8, 9] (by decide) rfl rfl rfl rfl rfl (Nat.le_of_ble_eq_true rfl) ⟨Nat.zero_le _, Nat.zero_le _⟩ d_MO_keepRegister_18) hP hD hS hA [0, 1, 2, 3, 4, 5, 6, 7, 8, 9] [] [0, 1, 2, 3, 4, 5, 6, 7, 8, 9] rfl (wr := []) rfl (by decide) (by decide) (fun _ => rfl) (by decide) (fun r u_ H locs hq18 hP hD hS => ?_)
    rcases hq18 with ⟨rfl, h18⟩ | ⟨rfl, h18⟩
    · refine cx_if_ne (tgt := 26) hx hb d_MO_keepRegister_21 rfl (by omega) (fun _ => ?_) (fun h0 => absurd h0 (by decide))
      have J46 : ∀ v46 : Int, ((y 32 0 = 40 ∧ v46 = y 35 0) ∨ (¬ y 32 0 = 40 ∧ v46 = y 36 0)) → W p l e (rmK 1) s m ([.ref (q 20)] : List Value).toArray below meth cd H locs 0 0 Q (F0 m 46 ls [.int (iI v46)]) := by
        intro v46 hv46
        refine cx_sipush hx hb d_MO_keepRegister_46 rfl ?_
        by_cases h0 : 0 ≤ v46
        · refine cx_irem hx hb d_MO_keepRegister_49 (by omega) (by omega) ?_
          refine lv_istore_n (lv' := [(1, .int (iI (v46 % 16000))), (0, .ref (q 20))]) hx hb d_MO_keepRegister_50 rfl hl (by decide) rfl (fun ls hl => ?_)
          refine lv_iload_n hx hb d_MO_keepRegister_51 rfl (lv_at hl 0 rfl) ?_
          refine cx_if_ge (tgt := 63) hx hb d_MO_keepRegister_52 rfl (by omega) (fun h52 => ?_) (fun h52 => absurd h52 (by omega))
          refine lv_iload_n hx hb d_MO_keepRegister_63 rfl (lv_at hl 0 rfl) ?_
          obtain ⟨v, hv⟩ : ∃ z : Int, z = v46 % 16000 := ⟨_, rfl⟩
          refine cx_eq (show iI (v46 % 16000) = iI v from by rw [hv]) ?_
          have hv1 : 0 ≤ v ∧ v < 16000 := by omega
          have hw1 := wrt_in (v := (v / 100) % 10) (by omega)
          have hw2 := wrt_in (v := (v / 10) % 10) (by omega)
          have hw3 := wrt_in (v := v % 10) (by omega)
          have hq0 : 0 ≤ v / 1000 ∧ v / 1000 < 16 := by omega
          refine lv_istore_n (lv' := [(1, .int (iI (v))), (0, .ref (q 20))]) hx hb d_MO_keepRegister_64 rfl hl (by decide) rfl (fun ls hl => ?_)
          refine lv_iload_n hx hb d_MO_keepRegister_65 rfl (lv_at hl 0 rfl) ?_
          refine cx_sipush hx hb d_MO_keepRegister_66 rfl ?_
          refine cx_idiv hx hb d_MO_keepRegister_69 (by omega) (by omega) ?_
          refine lv_istore_n (lv' := [(2, .int (iI (v / 1000))), (1, .int (iI (v))), (0, .ref (q 20))]) hx hb d_MO_keepRegister_70 rfl hl (by decide) rfl (fun ls hl => ?_)
          refine lv_aload_n hx hb d_MO_keepRegister_71 rfl (lv_at hl 2 rfl) ?_
          refine va_get (D := D) (ci := 5) (v := .ref (q 21)) (C := R_MO) (T := T_MO) (N := 28) hx hb hT lays_MO hown hK hP 0 rfl rfl 2 (by decide) (hT _ tw_638) (fun _ h9 => h9) rfl d_MO_keepRegister_72 ?_
          refine lv_aload_n hx hb d_MO_keepRegister_75 rfl (lv_at hl 2 rfl) ?_
          refine va_get (D := D) (ci := 5) (v := .int (iI (x 12 0))) (C := R_MO) (T := T_MO) (N := 28) hx hb hT lays_MO hown hK hP 0 rfl rfl 5 (by decide) (hT _ tw_641) (fun _ h9 => h9) rfl d_MO_keepRegister_76 ?_
          refine cx_iconst hx hb d_MO_keepRegister_79 ?_
          refine cx_isub hx hb d_MO_keepRegister_80 ?_
          refine lv_iload_n hx hb d_MO_keepRegister_81 rfl (lv_at hl 1 rfl) ?_
          refine cx_bipush hx hb d_MO_keepRegister_82 rfl ?_
          refine cx_idiv hx hb d_MO_keepRegister_84 (by omega) (by omega) ?_
          refine cx_bipush hx hb d_MO_keepRegister_85 rfl ?_
          refine cx_irem hx hb d_MO_keepRegister_87 (by omega) (by omega) ?_
          refine cx_cI (ws2 := fun _ => moW T q n (x 0) (x 1) (mkF (x 2) (x 18 0)) (cdF (x 2) (x 18 0)) (x 3) (x 4) (x 11 0) (x 12 0) (x 13 0) (x 14 0) (x 15 0) (x 16 0) (x 17 0) (x 18 0) (x 19 0) (x 20 0) (x 21 0) (x 22 0) (y 31 0) (y 32 0) (y 33 0) (y 34 0) (y 35 0) (y 36 0) (y 37) (y 38) (y 39)) (cx_rS (rest := [.int (iI ((x 12 0) - 2)), .ref (q 21)]) (As := [.int (iI ((v / 100) % 10))]) hx hb hml hown hT hK hN hP hD hl.1 tw_804 k_MO_digit (c_MO_digit l D T H.size ((v / 100) % 10) (by omega)) ⟨by decide, by decide⟩ ⟨rfl, rfl⟩ [] (by decide) rfl rfl rfl (Nat.le_of_ble_eq_true rfl) ⟨Nat.zero_le _, Nat.zero_le _⟩ d_MO_keepRegister_88) hP hD hS hA [] [0, 1, 2, 3, 4, 5, 6, 7, 8, 9] [0, 1, 2, 3, 4, 5, 6, 7, 8, 9] rfl (wr := [(q 20, .inr (5, [.int (iI (y 31 0)), .int (iI ((n : Int))), .ref (q 21), .ref (q 22), .int (iI (x 11 0)), .int (iI (x 12 0)), .int (iI (x 13 0)), .int (iI (x 14 0)), .int (iI (x 15 0)), .int (iI (x 16 0)), .int (iI (x 21 0)), .int (iI (x 22 0)), .int (iI (y 32 0)), .int (iI (y 33 0)), .int (iI (y 34 0)), .int (iI (y 35 0)), .int (iI (y 36 0)), .ref (q 23), .int (iI (x 18 0)), .int (iI (x 17 0)), .ref (q 24), .int (iI (x 19 0)), .ref (q 25), .int (iI (x 20 0)), .ref (q 26), .ref (q 27), .ref (q 28), .ref (q 29)])), (q 21, .inl (T 1, 2000, .inl (fun jj : Nat => (iF (x 0)) (jj : Int)))), (q 22, .inl (T 2, 2000, .inl (fun jj : Nat => (iF (x 1)) (jj : Int)))), (q 23, .inl (T 1, 80, .inl (fun jj : Nat => (iF (mkF (x 2) (x 18 0))) (jj : Int)))), (q 24, .inl (T 1, 1600, .inl (fun jj : Nat => (iF (cdF (x 2) (x 18 0))) (jj : Int)))), (q 25, .inl (T 1, 5280, .inl (fun jj : Nat => (iF (x 3)) (jj : Int)))), (q 26, .inl (T 1, 1600, .inl (fun jj : Nat => (iF (x 4)) (jj : Int)))), (q 27, .inl (T 0, 2000, .inl (fun jj : Nat => (iF (y 37)) (jj : Int)))), (q 28, .inl (T 0, 2000, .inl (fun jj : Nat => (iF (y 38)) (jj : Int)))), (q 29, .inl (T 1, 2000, .inl (fun jj : Nat => (iF (y 39)) (jj : Int))))]) rfl (by decide) (by decide) (fun _ => rfl) (by decide) (fun r u_ H locs hq88 hP hD hS => ?_)
          subst hq88
          refine lv_iload_n hx hb d_MO_keepRegister_91 rfl (lv_at hl 0 rfl) ?_
          refine cx_iconst hx hb d_MO_keepRegister_92 ?_
          refine lv_iand hx hb d_MO_keepRegister_93 ?_
          refine cx_eq ((qb_all hq0).1) ?_
          refine cx_bipush hx hb d_MO_keepRegister_94 rfl ?_
          refine cx_imul hx hb d_MO_keepRegister_96 ?_
          refine lv_ior hx hb d_MO_keepRegister_97 ?_
          refine cx_eq (bt_zd (by omega) (by omega)) ?_
          refine lv_iload_n hx hb d_MO_keepRegister_98 rfl (lv_at hl 0 rfl) ?_
          refine cx_iconst hx hb d_MO_keepRegister_99 ?_
          refine lv_ishr hx hb d_MO_keepRegister_100 ?_
          refine cx_eq ((qb_all hq0).2.1) ?_
          refine cx_iconst hx hb d_MO_keepRegister_101 ?_
          refine lv_iand hx hb d_MO_keepRegister_102 ?_
          refine cx_eq ((qb_all hq0).2.2.1) ?_
          refine cx_bipush hx hb d_MO_keepRegister_103 rfl ?_
          refine cx_imul hx hb d_MO_keepRegister_105 ?_
          refine lv_ior hx hb d_MO_keepRegister_106 ?_
          refine cx_eq (bt_q1 (by omega) (by omega)) ?_
          refine lv_i2b (v := iI (wrt ((v / 100) % 10) + 16 * ((v / 1000) % 4))) hx hb d_MO_keepRegister_107 (i2b_ok (by omega)) ?_
          refine cx_bast (g := iF (x 0)) (g' := iF (fu (x 0) ((x 12 0) - 2) (wrt ((v / 100) % 10) + 16 * ((v / 1000) % 4)))) hx hb hK hP hD hS 1 1 rfl rfl (by omega) (by omega) (by omega) (fun j => iF_put j) d_MO_keepRegister_108 (fun H locs hP hD hS => ?_)
          have hP : va_P D vwCl (moW T q n (fu (x 0) ((x 12 0) - 2) (wrt ((v / 100) % 10) + 16 * ((v / 1000) % 4))) (x 1) (mkF (x 2) (x 18 0)) (cdF (x 2) (x 18 0)) (x 3) (x 4) (x 11 0) (x 12 0) (x 13 0) (x 14 0) (x 15 0) (x 16 0) (x 17 0) (x 18 0) (x 19 0) (x 20 0) (x 21 0) (x 22 0) (y 31 0) (y 32 0) (y 33 0) (y 34 0) (y 35 0) (y 36 0) (y 37) (y 38) (y 39)) H := hP
          have hD : va_D A (moW T q n (fu (x 0) ((x 12 0) - 2) (wrt ((v / 100) % 10) + 16 * ((v / 1000) % 4))) (x 1) (mkF (x 2) (x 18 0)) (cdF (x 2) (x 18 0)) (x 3) (x 4) (x 11 0) (x 12 0) (x 13 0) (x 14 0) (x 15 0) (x 16 0) (x 17 0) (x 18 0) (x 19 0) (x 20 0) (x 21 0) (x 22 0) (y 31 0) (y 32 0) (y 33 0) (y 34 0) (y 35 0) (y 36 0) (y 37) (y 38) (y 39)) := hD
          have hC : okC (fu (x 0) ((x 12 0) - 2) (wrt ((v / 100) % 10) + 16 * ((v / 1000) % 4))) (x 1) := okC_fu hC (by omega)
          refine lv_aload_n hx hb d_MO_keepRegister_109 rfl (lv_at hl 2 rfl) ?_
          refine va_get (D := D) (ci := 5) (v := .ref (q 21)) (C := R_MO) (T := T_MO) (N := 28) hx hb hT lays_MO hown hK hP 0 rfl rfl 2 (by decide) (hT _ tw_638) (fun _ h9 => h9) rfl d_MO_keepRegister_110 ?_
          refine lv_aload_n hx hb d_MO_keepRegister_113 rfl (lv_at hl 2 rfl) ?_
          refine va_get (D := D) (ci := 5) (v := .int (iI (x 12 0))) (C := R_MO) (T := T_MO) (N := 28) hx hb hT lays_MO hown hK hP 0 rfl rfl 5 (by decide) (hT _ tw_641) (fun _ h9 => h9) rfl d_MO_keepRegister_114 ?_
          refine cx_iconst hx hb d_MO_keepRegister_117 ?_
          refine cx_isub hx hb d_MO_keepRegister_118 ?_
          refine lv_iload_n hx hb d_MO_keepRegister_119 rfl (lv_at hl 1 rfl) ?_
          refine cx_bipush hx hb d_MO_keepRegister_120 rfl ?_
          refine cx_idiv hx hb d_MO_keepRegister_122 (by omega) (by omega) ?_
          refine cx_bipush hx hb d_MO_keepRegister_123 rfl ?_
          refine cx_irem hx hb d_MO_keepRegister_125 (by omega) (by omega) ?_
          refine cx_cI (ws2 := fun _ => moW T q n (fu (x 0) ((x 12 0) - 2) (wrt ((v / 100) % 10) + 16 * ((v / 1000) % 4))) (x 1) (mkF (x 2) (x 18 0)) (cdF (x 2) (x 18 0)) (x 3) (x 4) (x 11 0) (x 12 0) (x 13 0) (x 14 0) (x 15 0) (x 16 0) (x 17 0) (x 18 0) (x 19 0) (x 20 0) (x 21 0) (x 22 0) (y 31 0) (y 32 0) (y 33 0) (y 34 0) (y 35 0) (y 36 0) (y 37) (y 38) (y 39)) (cx_rS (rest := [.int (iI ((x 12 0) - 1)), .ref (q 21)]) (As := [.int (iI ((v / 10) % 10))]) hx hb hml hown hT hK hN hP hD hl.1 tw_804 k_MO_digit (c_MO_digit l D T H.size ((v / 10) % 10) (by omega)) ⟨by decide, by decide⟩ ⟨rfl, rfl⟩ [] (by decide) rfl rfl rfl (Nat.le_of_ble_eq_true rfl) ⟨Nat.zero_le _, Nat.zero_le _⟩ d_MO_keepRegister_126) hP hD hS hA [] [0, 1, 2, 3, 4, 5, 6, 7, 8, 9] [0, 1, 2, 3, 4, 5, 6, 7, 8, 9] rfl (wr := [(q 20, .inr (5, [.int (iI (y 31 0)), .int (iI ((n : Int))), .ref (q 21), .ref (q 22), .int (iI (x 11 0)), .int (iI (x 12 0)), .int (iI (x 13 0)), .int (iI (x 14 0)), .int (iI (x 15 0)), .int (iI (x 16 0)), .int (iI (x 21 0)), .int (iI (x 22 0)), .int (iI (y 32 0)), .int (iI (y 33 0)), .int (iI (y 34 0)), .int (iI (y 35 0)), .int (iI (y 36 0)), .ref (q 23), .int (iI (x 18 0)), .int (iI (x 17 0)), .ref (q 24), .int (iI (x 19 0)), .ref (q 25), .int (iI (x 20 0)), .ref (q 26), .ref (q 27), .ref (q 28), .ref (q 29)])), (q 21, .inl (T 1, 2000, .inl (fun jj : Nat => (iF (fu (x 0) ((x 12 0) - 2) (wrt ((v / 100) % 10) + 16 * ((v / 1000) % 4)))) (jj : Int)))), (q 22, .inl (T 2, 2000, .inl (fun jj : Nat => (iF (x 1)) (jj : Int)))), (q 23, .inl (T 1, 80, .inl (fun jj : Nat => (iF (mkF (x 2) (x 18 0))) (jj : Int)))), (q 24, .inl (T 1, 1600, .inl (fun jj : Nat => (iF (cdF (x 2) (x 18 0))) (jj : Int)))), (q 25, .inl (T 1, 5280, .inl (fun jj : Nat => (iF (x 3)) (jj : Int)))), (q 26, .inl (T 1, 1600, .inl (fun jj : Nat => (iF (x 4)) (jj : Int)))), (q 27, .inl (T 0, 2000, .inl (fun jj : Nat => (iF (y 37)) (jj : Int)))), (q 28, .inl (T 0, 2000, .inl (fun jj : Nat => (iF (y 38)) (jj : Int)))), (q 29, .inl (T 1, 2000, .inl (fun jj : Nat => (iF (y 39)) (jj : Int))))]) rfl (by decide) (by decide) (fun _ => rfl) (by decide) (fun r u_ H locs hq126 hP hD hS => ?_)
          subst hq126
          refine lv_i2b (v := iI (wrt ((v / 10) % 10))) hx hb d_MO_keepRegister_129 (i2b_ok (by omega)) ?_
          refine cx_bast (g := iF (fu (x 0) ((x 12 0) - 2) (wrt ((v / 100) % 10) + 16 * ((v / 1000) % 4)))) (g' := iF (fu (fu (x 0) ((x 12 0) - 2) (wrt ((v / 100) % 10) + 16 * ((v / 1000) % 4))) ((x 12 0) - 1) (wrt ((v / 10) % 10)))) hx hb hK hP hD hS 1 1 rfl rfl (by omega) (by omega) (by omega) (fun j => iF_put j) d_MO_keepRegister_130 (fun H locs hP hD hS => ?_)
          have hP : va_P D vwCl (moW T q n (fu (fu (x 0) ((x 12 0) - 2) (wrt ((v / 100) % 10) + 16 * ((v / 1000) % 4))) ((x 12 0) - 1) (wrt ((v / 10) % 10))) (x 1) (mkF (x 2) (x 18 0)) (cdF (x 2) (x 18 0)) (x 3) (x 4) (x 11 0) (x 12 0) (x 13 0) (x 14 0) (x 15 0) (x 16 0) (x 17 0) (x 18 0) (x 19 0) (x 20 0) (x 21 0) (x 22 0) (y 31 0) (y 32 0) (y 33 0) (y 34 0) (y 35 0) (y 36 0) (y 37) (y 38) (y 39)) H := hP
          have hD : va_D A (moW T q n (fu (fu (x 0) ((x 12 0) - 2) (wrt ((v / 100) % 10) + 16 * ((v / 1000) % 4))) ((x 12 0) - 1) (wrt ((v / 10) % 10))) (x 1) (mkF (x 2) (x 18 0)) (cdF (x 2) (x 18 0)) (x 3) (x 4) (x 11 0) (x 12 0) (x 13 0) (x 14 0) (x 15 0) (x 16 0) (x 17 0) (x 18 0) (x 19 0) (x 20 0) (x 21 0) (x 22 0) (y 31 0) (y 32 0) (y 33 0) (y 34 0) (y 35 0) (y 36 0) (y 37) (y 38) (y 39)) := hD
          have hC : okC (fu (fu (x 0) ((x 12 0) - 2) (wrt ((v / 100) % 10) + 16 * ((v / 1000) % 4))) ((x 12 0) - 1) (wrt ((v / 10) % 10))) (x 1) := okC_fu hC (by omega)
          refine lv_aload_n hx hb d_MO_keepRegister_131 rfl (lv_at hl 2 rfl) ?_
          refine va_get (D := D) (ci := 5) (v := .ref (q 21)) (C := R_MO) (T := T_MO) (N := 28) hx hb hT lays_MO hown hK hP 0 rfl rfl 2 (by decide) (hT _ tw_638) (fun _ h9 => h9) rfl d_MO_keepRegister_132 ?_
          refine lv_aload_n hx hb d_MO_keepRegister_135 rfl (lv_at hl 2 rfl) ?_
          refine va_get (D := D) (ci := 5) (v := .int (iI (x 12 0))) (C := R_MO) (T := T_MO) (N := 28) hx hb hT lays_MO hown hK hP 0 rfl rfl 5 (by decide) (hT _ tw_641) (fun _ h9 => h9) rfl d_MO_keepRegister_136 ?_
          refine lv_iload_n hx hb d_MO_keepRegister_139 rfl (lv_at hl 1 rfl) ?_
          refine cx_bipush hx hb d_MO_keepRegister_140 rfl ?_
          refine cx_irem hx hb d_MO_keepRegister_142 (by omega) (by omega) ?_
          refine cx_cI (ws2 := fun _ => moW T q n (fu (fu (x 0) ((x 12 0) - 2) (wrt ((v / 100) % 10) + 16 * ((v / 1000) % 4))) ((x 12 0) - 1) (wrt ((v / 10) % 10))) (x 1) (mkF (x 2) (x 18 0)) (cdF (x 2) (x 18 0)) (x 3) (x 4) (x 11 0) (x 12 0) (x 13 0) (x 14 0) (x 15 0) (x 16 0) (x 17 0) (x 18 0) (x 19 0) (x 20 0) (x 21 0) (x 22 0) (y 31 0) (y 32 0) (y 33 0) (y 34 0) (y 35 0) (y 36 0) (y 37) (y 38) (y 39)) (cx_rS (rest := [.int (iI (x 12 0)), .ref (q 21)]) (As := [.int (iI (v % 10))]) hx hb hml hown hT hK hN hP hD hl.1 tw_804 k_MO_digit (c_MO_digit l D T H.size (v % 10) (by omega)) ⟨by decide, by decide⟩ ⟨rfl, rfl⟩ [] (by decide) rfl rfl rfl (Nat.le_of_ble_eq_true rfl) ⟨Nat.zero_le _, Nat.zero_le _⟩ d_MO_keepRegister_143) hP hD hS hA [] [0, 1, 2, 3, 4, 5, 6, 7, 8, 9] [0, 1, 2, 3, 4, 5, 6, 7, 8, 9] rfl (wr := [(q 20, .inr (5, [.int (iI (y 31 0)), .int (iI ((n : Int))), .ref (q 21), .ref (q 22), .int (iI (x 11 0)), .int (iI (x 12 0)), .int (iI (x 13 0)), .int (iI (x 14 0)), .int (iI (x 15 0)), .int (iI (x 16 0)), .int (iI (x 21 0)), .int (iI (x 22 0)), .int (iI (y 32 0)), .int (iI (y 33 0)), .int (iI (y 34 0)), .int (iI (y 35 0)), .int (iI (y 36 0)), .ref (q 23), .int (iI (x 18 0)), .int (iI (x 17 0)), .ref (q 24), .int (iI (x 19 0)), .ref (q 25), .int (iI (x 20 0)), .ref (q 26), .ref (q 27), .ref (q 28), .ref (q 29)])), (q 21, .inl (T 1, 2000, .inl (fun jj : Nat => (iF (fu (fu (x 0) ((x 12 0) - 2) (wrt ((v / 100) % 10) + 16 * ((v / 1000) % 4))) ((x 12 0) - 1) (wrt ((v / 10) % 10)))) (jj : Int)))), (q 22, .inl (T 2, 2000, .inl (fun jj : Nat => (iF (x 1)) (jj : Int)))), (q 23, .inl (T 1, 80, .inl (fun jj : Nat => (iF (mkF (x 2) (x 18 0))) (jj : Int)))), (q 24, .inl (T 1, 1600, .inl (fun jj : Nat => (iF (cdF (x 2) (x 18 0))) (jj : Int)))), (q 25, .inl (T 1, 5280, .inl (fun jj : Nat => (iF (x 3)) (jj : Int)))), (q 26, .inl (T 1, 1600, .inl (fun jj : Nat => (iF (x 4)) (jj : Int)))), (q 27, .inl (T 0, 2000, .inl (fun jj : Nat => (iF (y 37)) (jj : Int)))), (q 28, .inl (T 0, 2000, .inl (fun jj : Nat => (iF (y 38)) (jj : Int)))), (q 29, .inl (T 1, 2000, .inl (fun jj : Nat => (iF (y 39)) (jj : Int))))]) rfl (by decide) (by decide) (fun _ => rfl) (by decide) (fun r u_ H locs hq143 hP hD hS => ?_)
          subst hq143
          refine lv_iload_n hx hb d_MO_keepRegister_146 rfl (lv_at hl 0 rfl) ?_
          refine cx_iconst hx hb d_MO_keepRegister_147 ?_
          refine lv_ishr hx hb d_MO_keepRegister_148 ?_
          refine cx_eq ((qb_all hq0).2.2.2.1) ?_
          refine cx_iconst hx hb d_MO_keepRegister_149 ?_
          refine lv_iand hx hb d_MO_keepRegister_150 ?_
          refine cx_eq ((qb_all hq0).2.2.2.2.1) ?_
          refine cx_bipush hx hb d_MO_keepRegister_151 rfl ?_
          refine cx_imul hx hb d_MO_keepRegister_153 ?_
          refine lv_ior hx hb d_MO_keepRegister_154 ?_
          refine cx_eq (bt_zd (by omega) (by omega)) ?_
          refine lv_iload_n hx hb d_MO_keepRegister_155 rfl (lv_at hl 0 rfl) ?_
          refine cx_iconst hx hb d_MO_keepRegister_156 ?_
          refine lv_ishr hx hb d_MO_keepRegister_157 ?_
          refine cx_eq ((qb_all hq0).2.2.2.2.2.1) ?_
          refine cx_iconst hx hb d_MO_keepRegister_158 ?_
          refine lv_iand hx hb d_MO_keepRegister_159 ?_
          refine cx_eq ((qb_all hq0).2.2.2.2.2.2) ?_
          refine cx_bipush hx hb d_MO_keepRegister_160 rfl ?_
          refine cx_imul hx hb d_MO_keepRegister_162 ?_
          refine lv_ior hx hb d_MO_keepRegister_163 ?_
          refine cx_eq (bt_q2 (by omega) (by omega)) ?_
          refine lv_i2b (v := iI (wrt (v % 10) + 16 * ((v / 1000) / 4))) hx hb d_MO_keepRegister_164 (i2b_ok (by omega)) ?_
          refine cx_bast (g := iF (fu (fu (x 0) ((x 12 0) - 2) (wrt ((v / 100) % 10) + 16 * ((v / 1000) % 4))) ((x 12 0) - 1) (wrt ((v / 10) % 10)))) (g' := iF (fu (fu (fu (x 0) ((x 12 0) - 2) (wrt ((v / 100) % 10) + 16 * ((v / 1000) % 4))) ((x 12 0) - 1) (wrt ((v / 10) % 10))) (x 12 0) (wrt (v % 10) + 16 * ((v / 1000) / 4)))) hx hb hK hP hD hS 1 1 rfl rfl (by omega) (by omega) (by omega) (fun j => iF_put j) d_MO_keepRegister_165 (fun H locs hP hD hS => ?_)
          have hP : va_P D vwCl (moW T q n (fu (fu (fu (x 0) ((x 12 0) - 2) (wrt ((v / 100) % 10) + 16 * ((v / 1000) % 4))) ((x 12 0) - 1) (wrt ((v / 10) % 10))) (x 12 0) (wrt (v % 10) + 16 * ((v / 1000) / 4))) (x 1) (mkF (x 2) (x 18 0)) (cdF (x 2) (x 18 0)) (x 3) (x 4) (x 11 0) (x 12 0) (x 13 0) (x 14 0) (x 15 0) (x 16 0) (x 17 0) (x 18 0) (x 19 0) (x 20 0) (x 21 0) (x 22 0) (y 31 0) (y 32 0) (y 33 0) (y 34 0) (y 35 0) (y 36 0) (y 37) (y 38) (y 39)) H := hP
          have hD : va_D A (moW T q n (fu (fu (fu (x 0) ((x 12 0) - 2) (wrt ((v / 100) % 10) + 16 * ((v / 1000) % 4))) ((x 12 0) - 1) (wrt ((v / 10) % 10))) (x 12 0) (wrt (v % 10) + 16 * ((v / 1000) / 4))) (x 1) (mkF (x 2) (x 18 0)) (cdF (x 2) (x 18 0)) (x 3) (x 4) (x 11 0) (x 12 0) (x 13 0) (x 14 0) (x 15 0) (x 16 0) (x 17 0) (x 18 0) (x 19 0) (x 20 0) (x 21 0) (x 22 0) (y 31 0) (y 32 0) (y 33 0) (y 34 0) (y 35 0) (y 36 0) (y 37) (y 38) (y 39)) := hD
          have hC : okC (fu (fu (fu (x 0) ((x 12 0) - 2) (wrt ((v / 100) % 10) + 16 * ((v / 1000) % 4))) ((x 12 0) - 1) (wrt ((v / 10) % 10))) (x 12 0) (wrt (v % 10) + 16 * ((v / 1000) / 4))) (x 1) := okC_fu hC (by omega)
          refine lv_aload_n hx hb d_MO_keepRegister_166 rfl (lv_at hl 2 rfl) ?_
          refine lv_dup hx hb d_MO_keepRegister_167 rfl ?_
          refine va_get (D := D) (ci := 5) (v := .int (iI (x 12 0))) (C := R_MO) (T := T_MO) (N := 28) hx hb hT lays_MO hown hK hP 0 rfl rfl 5 (by decide) (hT _ tw_641) (fun _ h9 => h9) rfl d_MO_keepRegister_168 ?_
          refine cx_iconst hx hb d_MO_keepRegister_171 ?_
          refine cx_isub hx hb d_MO_keepRegister_172 ?_
          refine va_put (D := D) (ci := 5) (v := .int (iI ((x 12 0) - 3))) (ty := .int) (C := R_MO) (T := T_MO) (N := 28) hx hb hT lays_MO t_MO t_MO_ok n_MO hown hK hP hD hS 0 rfl rfl 5 (by decide) (hT _ tw_641) (fun _ h9 => h9) rfl (by decide +kernel) rfl rfl (Nat.le_of_ble_eq_true rfl) d_MO_keepRegister_173 (fun H locs hP hD hS => ?_)
          have hP : va_P D vwCl (moW T q n (fu (fu (fu (x 0) ((x 12 0) - 2) (wrt ((v / 100) % 10) + 16 * ((v / 1000) % 4))) ((x 12 0) - 1) (wrt ((v / 10) % 10))) (x 12 0) (wrt (v % 10) + 16 * ((v / 1000) / 4))) (x 1) (mkF (x 2) (x 18 0)) (cdF (x 2) (x 18 0)) (x 3) (x 4) (x 11 0) ((x 12 0) - 3) (x 13 0) (x 14 0) (x 15 0) (x 16 0) (x 17 0) (x 18 0) (x 19 0) (x 20 0) (x 21 0) (x 22 0) (y 31 0) (y 32 0) (y 33 0) (y 34 0) (y 35 0) (y 36 0) (y 37) (y 38) (y 39)) H := hP
          have hD : va_D A (moW T q n (fu (fu (fu (x 0) ((x 12 0) - 2) (wrt ((v / 100) % 10) + 16 * ((v / 1000) % 4))) ((x 12 0) - 1) (wrt ((v / 10) % 10))) (x 12 0) (wrt (v % 10) + 16 * ((v / 1000) / 4))) (x 1) (mkF (x 2) (x 18 0)) (cdF (x 2) (x 18 0)) (x 3) (x 4) (x 11 0) ((x 12 0) - 3) (x 13 0) (x 14 0) (x 15 0) (x 16 0) (x 17 0) (x 18 0) (x 19 0) (x 20 0) (x 21 0) (x 22 0) (y 31 0) (y 32 0) (y 33 0) (y 34 0) (y 35 0) (y 36 0) (y 37) (y 38) (y 39)) := hD
          refine lv_aload_n hx hb d_MO_keepRegister_176 rfl (lv_at hl 2 rfl) ?_
          refine lv_aload_n hx hb d_MO_keepRegister_177 rfl (lv_at hl 2 rfl) ?_
          refine va_get (D := D) (ci := 5) (v := .int (iI (y 36 0))) (C := R_MO) (T := T_MO) (N := 28) hx hb hT lays_MO hown hK hP 0 rfl rfl 16 (by decide) (hT _ tw_652) (fun _ h9 => h9) rfl d_MO_keepRegister_178 ?_
          refine va_put (D := D) (ci := 5) (v := .int (iI (y 36 0))) (ty := .int) (C := R_MO) (T := T_MO) (N := 28) hx hb hT lays_MO t_MO t_MO_ok n_MO hown hK hP hD hS 0 rfl rfl 6 (by decide) (hT _ tw_642) (fun _ h9 => h9) rfl (by decide +kernel) rfl rfl (Nat.le_of_ble_eq_true rfl) d_MO_keepRegister_181 (fun H locs hP hD hS => ?_)
          have hP : va_P D vwCl (moW T q n (fu (fu (fu (x 0) ((x 12 0) - 2) (wrt ((v / 100) % 10) + 16 * ((v / 1000) % 4))) ((x 12 0) - 1) (wrt ((v / 10) % 10))) (x 12 0) (wrt (v % 10) + 16 * ((v / 1000) / 4))) (x 1) (mkF (x 2) (x 18 0)) (cdF (x 2) (x 18 0)) (x 3) (x 4) (x 11 0) ((x 12 0) - 3) (y 36 0) (x 14 0) (x 15 0) (x 16 0) (x 17 0) (x 18 0) (x 19 0) (x 20 0) (x 21 0) (x 22 0) (y 31 0) (y 32 0) (y 33 0) (y 34 0) (y 35 0) (y 36 0) (y 37) (y 38) (y 39)) H := hP
          have hD : va_D A (moW T q n (fu (fu (fu (x 0) ((x 12 0) - 2) (wrt ((v / 100) % 10) + 16 * ((v / 1000) % 4))) ((x 12 0) - 1) (wrt ((v / 10) % 10))) (x 12 0) (wrt (v % 10) + 16 * ((v / 1000) / 4))) (x 1) (mkF (x 2) (x 18 0)) (cdF (x 2) (x 18 0)) (x 3) (x 4) (x 11 0) ((x 12 0) - 3) (y 36 0) (x 14 0) (x 15 0) (x 16 0) (x 17 0) (x 18 0) (x 19 0) (x 20 0) (x 21 0) (x 22 0) (y 31 0) (y 32 0) (y 33 0) (y 34 0) (y 35 0) (y 36 0) (y 37) (y 38) (y 39)) := hD
          have hP : va_P D vwCl (moW T q n (fu (fu (fu (x 0) ((x 12 0) - 2) (wrt ((v / 100) % 10) + 16 * ((v / 1000) % 4))) ((x 12 0) - 1) (wrt ((v / 10) % 10))) (x 12 0) (wrt (v % 10) + 16 * ((v / 1000) / 4))) (x 1) (mkF (x 2) (x 18 0)) (cdF (x 2) (x 18 0)) (x 3) (x 4) (x 11 0) ((x 12 0) - 3) (x 13 0) (x 14 0) (x 15 0) (x 16 0) (x 17 0) (x 18 0) (x 19 0) (x 20 0) (x 21 0) (x 22 0) (y 31 0) (y 32 0) (y 33 0) (y 34 0) (y 35 0) (y 36 0) (y 37) (y 38) (y 39)) H := by rw [← hB]; exact hP
          have hD : va_D A (moW T q n (fu (fu (fu (x 0) ((x 12 0) - 2) (wrt ((v / 100) % 10) + 16 * ((v / 1000) % 4))) ((x 12 0) - 1) (wrt ((v / 10) % 10))) (x 12 0) (wrt (v % 10) + 16 * ((v / 1000) / 4))) (x 1) (mkF (x 2) (x 18 0)) (cdF (x 2) (x 18 0)) (x 3) (x 4) (x 11 0) ((x 12 0) - 3) (x 13 0) (x 14 0) (x 15 0) (x 16 0) (x 17 0) (x 18 0) (x 19 0) (x 20 0) (x 21 0) (x 22 0) (y 31 0) (y 32 0) (y 33 0) (y 34 0) (y 35 0) (y 36 0) (y 37) (y 38) (y 39)) := by rw [← hB]; exact hD
          refine cx_iconst hx hb d_MO_keepRegister_184 ?_
          exact hret ((up (up x 0 (fu (fu (fu (x 0) ((x 12 0) - 2) (wrt ((v / 100) % 10) + 16 * ((v / 1000) % 4))) ((x 12 0) - 1) (wrt ((v / 10) % 10))) (x 12 0) (wrt (v % 10) + 16 * ((v / 1000) / 4)))) 12 (cst ((x 12 0) - 3)), y) : SX × SX) (⟨pst_of (by unfold staS wad; rw [if_pos (by omega), show (if y 32 0 = 40 then y 35 0 else y 36 0) = v46 by split <;> omega, ← hv]) (show okX (up (up x 0 (fu (fu (fu (x 0) ((x 12 0) - 2) (wrt ((v / 100) % 10) + 16 * ((v / 1000) % 4))) ((x 12 0) - 1) (wrt ((v / 10) % 10))) (x 12 0) (wrt (v % 10) + 16 * ((v / 1000) / 4)))) 12 (cst ((x 12 0) - 3))) from ⟨hC, (show okR (x 11 0) ((x 12 0) - 3) (x 13 0) (x 14 0) (x 15 0) (x 16 0) (x 17 0) (x 18 0) (x 19 0) (x 20 0) by have h8 := hX.2.1; unfold okR at h8 ⊢; omega), hX.2.2⟩), ⟨rfl, rfl⟩⟩) hP hD hS d_MO_keepRegister_185
        · obtain rfl : v46 = -1 := by omega
          refine lv_irem hx hb d_MO_keepRegister_49 (by decide) ?_
          refine cx_eq (show iI (-1) - iI (-1) / iI 16000 * iI 16000 = iI (-1) by decide +kernel) ?_
          refine lv_istore_n (lv' := [(1, .int (iI (-1))), (0, .ref (q 20))]) hx hb d_MO_keepRegister_50 rfl hl (by decide) rfl (fun ls hl => ?_)
          refine lv_iload_n hx hb d_MO_keepRegister_51 rfl (lv_at hl 0 rfl) ?_
          refine cx_if_ge (tgt := 63) hx hb d_MO_keepRegister_52 rfl (by omega) (fun h0 => absurd h0 (by decide)) (fun _ => ?_)
          refine lv_iload_n hx hb d_MO_keepRegister_55 rfl (lv_at hl 0 rfl) ?_
          refine cx_sipush hx hb d_MO_keepRegister_56 rfl ?_
          refine cx_iadd hx hb d_MO_keepRegister_59 ?_
          refine lv_goto (tgt := 64) hx hb d_MO_keepRegister_60 rfl ?_
          obtain ⟨v, hv⟩ : ∃ z : Int, z = -1 % 16000 := ⟨_, rfl⟩
          refine cx_eq (show iI ((-1) + 16000) = iI v from by rw [hv]; rfl) ?_
          have hv1 : 0 ≤ v ∧ v < 16000 := by omega
          have hw1 := wrt_in (v := (v / 100) % 10) (by omega)
          have hw2 := wrt_in (v := (v / 10) % 10) (by omega)
          have hw3 := wrt_in (v := v % 10) (by omega)
          have hq0 : 0 ≤ v / 1000 ∧ v / 1000 < 16 := by omega
          refine lv_istore_n (lv' := [(1, .int (iI (v))), (0, .ref (q 20))]) hx hb d_MO_keepRegister_64 rfl hl (by decide) rfl (fun ls hl => ?_)
          refine lv_iload_n hx hb d_MO_keepRegister_65 rfl (lv_at hl 0 rfl) ?_
          refine cx_sipush hx hb d_MO_keepRegister_66 rfl ?_
          refine cx_idiv hx hb d_MO_keepRegister_69 (by omega) (by omega) ?_
          refine lv_istore_n (lv' := [(2, .int (iI (v / 1000))), (1, .int (iI (v))), (0, .ref (q 20))]) hx hb d_MO_keepRegister_70 rfl hl (by decide) rfl (fun ls hl => ?_)
          refine lv_aload_n hx hb d_MO_keepRegister_71 rfl (lv_at hl 2 rfl) ?_
          refine va_get (D := D) (ci := 5) (v := .ref (q 21)) (C := R_MO) (T := T_MO) (N := 28) hx hb hT lays_MO hown hK hP 0 rfl rfl 2 (by decide) (hT _ tw_638) (fun _ h9 => h9) rfl d_MO_keepRegister_72 ?_
          refine lv_aload_n hx hb d_MO_keepRegister_75 rfl (lv_at hl 2 rfl) ?_
          refine va_get (D := D) (ci := 5) (v := .int (iI (x 12 0))) (C := R_MO) (T := T_MO) (N := 28) hx hb hT lays_MO hown hK hP 0 rfl rfl 5 (by decide) (hT _ tw_641) (fun _ h9 => h9) rfl d_MO_keepRegister_76 ?_
          refine cx_iconst hx hb d_MO_keepRegister_79 ?_
          refine cx_isub hx hb d_MO_keepRegister_80 ?_
          refine lv_iload_n hx hb d_MO_keepRegister_81 rfl (lv_at hl 1 rfl) ?_
          refine cx_bipush hx hb d_MO_keepRegister_82 rfl ?_
          refine cx_idiv hx hb d_MO_keepRegister_84 (by omega) (by omega) ?_
          refine cx_bipush hx hb d_MO_keepRegister_85 rfl ?_
          refine cx_irem hx hb d_MO_keepRegister_87 (by omega) (by omega) ?_
          refine cx_cI (ws2 := fun _ => moW T q n (x 0) (x 1) (mkF (x 2) (x 18 0)) (cdF (x 2) (x 18 0)) (x 3) (x 4) (x 11 0) (x 12 0) (x 13 0) (x 14 0) (x 15 0) (x 16 0) (x 17 0) (x 18 0) (x 19 0) (x 20 0) (x 21 0) (x 22 0) (y 31 0) (y 32 0) (y 33 0) (y 34 0) (y 35 0) (y 36 0) (y 37) (y 38) (y 39)) (cx_rS (rest := [.int (iI ((x 12 0) - 2)), .ref (q 21)]) (As := [.int (iI ((v / 100) % 10))]) hx hb hml hown hT hK hN hP hD hl.1 tw_804 k_MO_digit (c_MO_digit l D T H.size ((v / 100) % 10) (by omega)) ⟨by decide, by decide⟩ ⟨rfl, rfl⟩ [] (by decide) rfl rfl rfl (Nat.le_of_ble_eq_true rfl) ⟨Nat.zero_le _, Nat.zero_le _⟩ d_MO_keepRegister_88) hP hD hS hA [] [0, 1, 2, 3, 4, 5, 6, 7, 8, 9] [0, 1, 2, 3, 4, 5, 6, 7, 8, 9] rfl (wr := [(q 20, .inr (5, [.int (iI (y 31 0)), .int (iI ((n : Int))), .ref (q 21), .ref (q 22), .int (iI (x 11 0)), .int (iI (x 12 0)), .int (iI (x 13 0)), .int (iI (x 14 0)), .int (iI (x 15 0)), .int (iI (x 16 0)), .int (iI (x 21 0)), .int (iI (x 22 0)), .int (iI (y 32 0)), .int (iI (y 33 0)), .int (iI (y 34 0)), .int (iI (y 35 0)), .int (iI (y 36 0)), .ref (q 23), .int (iI (x 18 0)), .int (iI (x 17 0)), .ref (q 24), .int (iI (x 19 0)), .ref (q 25), .int (iI (x 20 0)), .ref (q 26), .ref (q 27), .ref (q 28), .ref (q 29)])), (q 21, .inl (T 1, 2000, .inl (fun jj : Nat => (iF (x 0)) (jj : Int)))), (q 22, .inl (T 2, 2000, .inl (fun jj : Nat => (iF (x 1)) (jj : Int)))), (q 23, .inl (T 1, 80, .inl (fun jj : Nat => (iF (mkF (x 2) (x 18 0))) (jj : Int)))), (q 24, .inl (T 1, 1600, .inl (fun jj : Nat => (iF (cdF (x 2) (x 18 0))) (jj : Int)))), (q 25, .inl (T 1, 5280, .inl (fun jj : Nat => (iF (x 3)) (jj : Int)))), (q 26, .inl (T 1, 1600, .inl (fun jj : Nat => (iF (x 4)) (jj : Int)))), (q 27, .inl (T 0, 2000, .inl (fun jj : Nat => (iF (y 37)) (jj : Int)))), (q 28, .inl (T 0, 2000, .inl (fun jj : Nat => (iF (y 38)) (jj : Int)))), (q 29, .inl (T 1, 2000, .inl (fun jj : Nat => (iF (y 39)) (jj : Int))))]) rfl (by decide) (by decide) (fun _ => rfl) (by decide) (fun r u_ H locs hq88 hP hD hS => ?_)
          subst hq88
          refine lv_iload_n hx hb d_MO_keepRegister_91 rfl (lv_at hl 0 rfl) ?_
          refine cx_iconst hx hb d_MO_keepRegister_92 ?_
          refine lv_iand hx hb d_MO_keepRegister_93 ?_
          refine cx_eq ((qb_all hq0).1) ?_
          refine cx_bipush hx hb d_MO_keepRegister_94 rfl ?_
          refine cx_imul hx hb d_MO_keepRegister_96 ?_
          refine lv_ior hx hb d_MO_keepRegister_97 ?_
          refine cx_eq (bt_zd (by omega) (by omega)) ?_
          refine lv_iload_n hx hb d_MO_keepRegister_98 rfl (lv_at hl 0 rfl) ?_
          refine cx_iconst hx hb d_MO_keepRegister_99 ?_
          refine lv_ishr hx hb d_MO_keepRegister_100 ?_
          refine cx_eq ((qb_all hq0).2.1) ?_
          refine cx_iconst hx hb d_MO_keepRegister_101 ?_
          refine lv_iand hx hb d_MO_keepRegister_102 ?_
          refine cx_eq ((qb_all hq0).2.2.1) ?_
          refine cx_bipush hx hb d_MO_keepRegister_103 rfl ?_
          refine cx_imul hx hb d_MO_keepRegister_105 ?_
          refine lv_ior hx hb d_MO_keepRegister_106 ?_
          refine cx_eq (bt_q1 (by omega) (by omega)) ?_
          refine lv_i2b (v := iI (wrt ((v / 100) % 10) + 16 * ((v / 1000) % 4))) hx hb d_MO_keepRegister_107 (i2b_ok (by omega)) ?_
          refine cx_bast (g := iF (x 0)) (g' := iF (fu (x 0) ((x 12 0) - 2) (wrt ((v / 100) % 10) + 16 * ((v / 1000) % 4)))) hx hb hK hP hD hS 1 1 rfl rfl (by omega) (by omega) (by omega) (fun j => iF_put j) d_MO_keepRegister_108 (fun H locs hP hD hS => ?_)
          have hP : va_P D vwCl (moW T q n (fu (x 0) ((x 12 0) - 2) (wrt ((v / 100) % 10) + 16 * ((v / 1000) % 4))) (x 1) (mkF (x 2) (x 18 0)) (cdF (x 2) (x 18 0)) (x 3) (x 4) (x 11 0) (x 12 0) (x 13 0) (x 14 0) (x 15 0) (x 16 0) (x 17 0) (x 18 0) (x 19 0) (x 20 0) (x 21 0) (x 22 0) (y 31 0) (y 32 0) (y 33 0) (y 34 0) (y 35 0) (y 36 0) (y 37) (y 38) (y 39)) H := hP
          have hD : va_D A (moW T q n (fu (x 0) ((x 12 0) - 2) (wrt ((v / 100) % 10) + 16 * ((v / 1000) % 4))) (x 1) (mkF (x 2) (x 18 0)) (cdF (x 2) (x 18 0)) (x 3) (x 4) (x 11 0) (x 12 0) (x 13 0) (x 14 0) (x 15 0) (x 16 0) (x 17 0) (x 18 0) (x 19 0) (x 20 0) (x 21 0) (x 22 0) (y 31 0) (y 32 0) (y 33 0) (y 34 0) (y 35 0) (y 36 0) (y 37) (y 38) (y 39)) := hD
          have hC : okC (fu (x 0) ((x 12 0) - 2) (wrt ((v / 100) % 10) + 16 * ((v / 1000) % 4))) (x 1) := okC_fu hC (by omega)
          refine lv_aload_n hx hb d_MO_keepRegister_109 rfl (lv_at hl 2 rfl) ?_
          refine va_get (D := D) (ci := 5) (v := .ref (q 21)) (C := R_MO) (T := T_MO) (N := 28) hx hb hT lays_MO hown hK hP 0 rfl rfl 2 (by decide) (hT _ tw_638) (fun _ h9 => h9) rfl d_MO_keepRegister_110 ?_
          refine lv_aload_n hx hb d_MO_keepRegister_113 rfl (lv_at hl 2 rfl) ?_
          refine va_get (D := D) (ci := 5) (v := .int (iI (x 12 0))) (C := R_MO) (T := T_MO) (N := 28) hx hb hT lays_MO hown hK hP 0 rfl rfl 5 (by decide) (hT _ tw_641) (fun _ h9 => h9) rfl d_MO_keepRegister_114 ?_
          refine cx_iconst hx hb d_MO_keepRegister_117 ?_
          refine cx_isub hx hb d_MO_keepRegister_118 ?_
          refine lv_iload_n hx hb d_MO_keepRegister_119 rfl (lv_at hl 1 rfl) ?_
          refine cx_bipush hx hb d_MO_keepRegister_120 rfl ?_
          refine cx_idiv hx hb d_MO_keepRegister_122 (by omega) (by omega) ?_
          refine cx_bipush hx hb d_MO_keepRegister_123 rfl ?_
          refine cx_irem hx hb d_MO_keepRegister_125 (by omega) (by omega) ?_
          refine cx_cI (ws2 := fun _ => moW T q n (fu (x 0) ((x 12 0) - 2) (wrt ((v / 100) % 10) + 16 * ((v / 1000) % 4))) (x 1) (mkF (x 2) (x 18 0)) (cdF (x 2) (x 18 0)) (x 3) (x 4) (x 11 0) (x 12 0) (x 13 0) (x 14 0) (x 15 0) (x 16 0) (x 17 0) (x 18 0) (x 19 0) (x 20 0) (x 21 0) (x 22 0) (y 31 0) (y 32 0) (y 33 0) (y 34 0) (y 35 0) (y 36 0) (y 37) (y 38) (y 39)) (cx_rS (rest := [.int (iI ((x 12 0) - 1)), .ref (q 21)]) (As := [.int (iI ((v / 10) % 10))]) hx hb hml hown hT hK hN hP hD hl.1 tw_804 k_MO_digit (c_MO_digit l D T H.size ((v / 10) % 10) (by omega)) ⟨by decide, by decide⟩ ⟨rfl, rfl⟩ [] (by decide) rfl rfl rfl (Nat.le_of_ble_eq_true rfl) ⟨Nat.zero_le _, Nat.zero_le _⟩ d_MO_keepRegister_126) hP hD hS hA [] [0, 1, 2, 3, 4, 5, 6, 7, 8, 9] [0, 1, 2, 3, 4, 5, 6, 7, 8, 9] rfl (wr := [(q 20, .inr (5, [.int (iI (y 31 0)), .int (iI ((n : Int))), .ref (q 21), .ref (q 22), .int (iI (x 11 0)), .int (iI (x 12 0)), .int (iI (x 13 0)), .int (iI (x 14 0)), .int (iI (x 15 0)), .int (iI (x 16 0)), .int (iI (x 21 0)), .int (iI (x 22 0)), .int (iI (y 32 0)), .int (iI (y 33 0)), .int (iI (y 34 0)), .int (iI (y 35 0)), .int (iI (y 36 0)), .ref (q 23), .int (iI (x 18 0)), .int (iI (x 17 0)), .ref (q 24), .int (iI (x 19 0)), .ref (q 25), .int (iI (x 20 0)), .ref (q 26), .ref (q 27), .ref (q 28), .ref (q 29)])), (q 21, .inl (T 1, 2000, .inl (fun jj : Nat => (iF (fu (x 0) ((x 12 0) - 2) (wrt ((v / 100) % 10) + 16 * ((v / 1000) % 4)))) (jj : Int)))), (q 22, .inl (T 2, 2000, .inl (fun jj : Nat => (iF (x 1)) (jj : Int)))), (q 23, .inl (T 1, 80, .inl (fun jj : Nat => (iF (mkF (x 2) (x 18 0))) (jj : Int)))), (q 24, .inl (T 1, 1600, .inl (fun jj : Nat => (iF (cdF (x 2) (x 18 0))) (jj : Int)))), (q 25, .inl (T 1, 5280, .inl (fun jj : Nat => (iF (x 3)) (jj : Int)))), (q 26, .inl (T 1, 1600, .inl (fun jj : Nat => (iF (x 4)) (jj : Int)))), (q 27, .inl (T 0, 2000, .inl (fun jj : Nat => (iF (y 37)) (jj : Int)))), (q 28, .inl (T 0, 2000, .inl (fun jj : Nat => (iF (y 38)) (jj : Int)))), (q 29, .inl (T 1, 2000, .inl (fun jj : Nat => (iF (y 39)) (jj : Int))))]) rfl (by decide) (by decide) (fun _ => rfl) (by decide) (fun r u_ H locs hq126 hP hD hS => ?_)
          subst hq126
          refine lv_i2b (v := iI (wrt ((v / 10) % 10))) hx hb d_MO_keepRegister_129 (i2b_ok (by omega)) ?_
          refine cx_bast (g := iF (fu (x 0) ((x 12 0) - 2) (wrt ((v / 100) % 10) + 16 * ((v / 1000) % 4)))) (g' := iF (fu (fu (x 0) ((x 12 0) - 2) (wrt ((v / 100) % 10) + 16 * ((v / 1000) % 4))) ((x 12 0) - 1) (wrt ((v / 10) % 10)))) hx hb hK hP hD hS 1 1 rfl rfl (by omega) (by omega) (by omega) (fun j => iF_put j) d_MO_keepRegister_130 (fun H locs hP hD hS => ?_)
          have hP : va_P D vwCl (moW T q n (fu (fu (x 0) ((x 12 0) - 2) (wrt ((v / 100) % 10) + 16 * ((v / 1000) % 4))) ((x 12 0) - 1) (wrt ((v / 10) % 10))) (x 1) (mkF (x 2) (x 18 0)) (cdF (x 2) (x 18 0)) (x 3) (x 4) (x 11 0) (x 12 0) (x 13 0) (x 14 0) (x 15 0) (x 16 0) (x 17 0) (x 18 0) (x 19 0) (x 20 0) (x 21 0) (x 22 0) (y 31 0) (y 32 0) (y 33 0) (y 34 0) (y 35 0) (y 36 0) (y 37) (y 38) (y 39)) H := hP
          have hD : va_D A (moW T q n (fu (fu (x 0) ((x 12 0) - 2) (wrt ((v / 100) % 10) + 16 * ((v / 1000) % 4))) ((x 12 0) - 1) (wrt ((v / 10) % 10))) (x 1) (mkF (x 2) (x 18 0)) (cdF (x 2) (x 18 0)) (x 3) (x 4) (x 11 0) (x 12 0) (x 13 0) (x 14 0) (x 15 0) (x 16 0) (x 17 0) (x 18 0) (x 19 0) (x 20 0) (x 21 0) (x 22 0) (y 31 0) (y 32 0) (y 33 0) (y 34 0) (y 35 0) (y 36 0) (y 37) (y 38) (y 39)) := hD
          have hC : okC (fu (fu (x 0) ((x 12 0) - 2) (wrt ((v / 100) % 10) + 16 * ((v / 1000) % 4))) ((x 12 0) - 1) (wrt ((v / 10) % 10))) (x 1) := okC_fu hC (by omega)
          refine lv_aload_n hx hb d_MO_keepRegister_131 rfl (lv_at hl 2 rfl) ?_
          refine va_get (D := D) (ci := 5) (v := .ref (q 21)) (C := R_MO) (T := T_MO) (N := 28) hx hb hT lays_MO hown hK hP 0 rfl rfl 2 (by decide) (hT _ tw_638) (fun _ h9 => h9) rfl d_MO_keepRegister_132 ?_
          refine lv_aload_n hx hb d_MO_keepRegister_135 rfl (lv_at hl 2 rfl) ?_
          refine va_get (D := D) (ci := 5) (v := .int (iI (x 12 0))) (C := R_MO) (T := T_MO) (N := 28) hx hb hT lays_MO hown hK hP 0 rfl rfl 5 (by decide) (hT _ tw_641) (fun _ h9 => h9) rfl d_MO_keepRegister_136 ?_
          refine lv_iload_n hx hb d_MO_keepRegister_139 rfl (lv_at hl 1 rfl) ?_
          refine cx_bipush hx hb d_MO_keepRegister_140 rfl ?_
          refine cx_irem hx hb d_MO_keepRegister_142 (by omega) (by omega) ?_
          refine cx_cI (ws2 := fun _ => moW T q n (fu (fu (x 0) ((x 12 0) - 2) (wrt ((v / 100) % 10) + 16 * ((v / 1000) % 4))) ((x 12 0) - 1) (wrt ((v / 10) % 10))) (x 1) (mkF (x 2) (x 18 0)) (cdF (x 2) (x 18 0)) (x 3) (x 4) (x 11 0) (x 12 0) (x 13 0) (x 14 0) (x 15 0) (x 16 0) (x 17 0) (x 18 0) (x 19 0) (x 20 0) (x 21 0) (x 22 0) (y 31 0) (y 32 0) (y 33 0) (y 34 0) (y 35 0) (y 36 0) (y 37) (y 38) (y 39)) (cx_rS (rest := [.int (iI (x 12 0)), .ref (q 21)]) (As := [.int (iI (v % 10))]) hx hb hml hown hT hK hN hP hD hl.1 tw_804 k_MO_digit (c_MO_digit l D T H.size (v % 10) (by omega)) ⟨by decide, by decide⟩ ⟨rfl, rfl⟩ [] (by decide) rfl rfl rfl (Nat.le_of_ble_eq_true rfl) ⟨Nat.zero_le _, Nat.zero_le _⟩ d_MO_keepRegister_143) hP hD hS hA [] [0, 1, 2, 3, 4, 5, 6, 7, 8, 9] [0, 1, 2, 3, 4, 5, 6, 7, 8, 9] rfl (wr := [(q 20, .inr (5, [.int (iI (y 31 0)), .int (iI ((n : Int))), .ref (q 21), .ref (q 22), .int (iI (x 11 0)), .int (iI (x 12 0)), .int (iI (x 13 0)), .int (iI (x 14 0)), .int (iI (x 15 0)), .int (iI (x 16 0)), .int (iI (x 21 0)), .int (iI (x 22 0)), .int (iI (y 32 0)), .int (iI (y 33 0)), .int (iI (y 34 0)), .int (iI (y 35 0)), .int (iI (y 36 0)), .ref (q 23), .int (iI (x 18 0)), .int (iI (x 17 0)), .ref (q 24), .int (iI (x 19 0)), .ref (q 25), .int (iI (x 20 0)), .ref (q 26), .ref (q 27), .ref (q 28), .ref (q 29)])), (q 21, .inl (T 1, 2000, .inl (fun jj : Nat => (iF (fu (fu (x 0) ((x 12 0) - 2) (wrt ((v / 100) % 10) + 16 * ((v / 1000) % 4))) ((x 12 0) - 1) (wrt ((v / 10) % 10)))) (jj : Int)))), (q 22, .inl (T 2, 2000, .inl (fun jj : Nat => (iF (x 1)) (jj : Int)))), (q 23, .inl (T 1, 80, .inl (fun jj : Nat => (iF (mkF (x 2) (x 18 0))) (jj : Int)))), (q 24, .inl (T 1, 1600, .inl (fun jj : Nat => (iF (cdF (x 2) (x 18 0))) (jj : Int)))), (q 25, .inl (T 1, 5280, .inl (fun jj : Nat => (iF (x 3)) (jj : Int)))), (q 26, .inl (T 1, 1600, .inl (fun jj : Nat => (iF (x 4)) (jj : Int)))), (q 27, .inl (T 0, 2000, .inl (fun jj : Nat => (iF (y 37)) (jj : Int)))), (q 28, .inl (T 0, 2000, .inl (fun jj : Nat => (iF (y 38)) (jj : Int)))), (q 29, .inl (T 1, 2000, .inl (fun jj : Nat => (iF (y 39)) (jj : Int))))]) rfl (by decide) (by decide) (fun _ => rfl) (by decide) (fun r u_ H locs hq143 hP hD hS => ?_)
          subst hq143
          refine lv_iload_n hx hb d_MO_keepRegister_146 rfl (lv_at hl 0 rfl) ?_
          refine cx_iconst hx hb d_MO_keepRegister_147 ?_
          refine lv_ishr hx hb d_MO_keepRegister_148 ?_
          refine cx_eq ((qb_all hq0).2.2.2.1) ?_
          refine cx_iconst hx hb d_MO_keepRegister_149 ?_
          refine lv_iand hx hb d_MO_keepRegister_150 ?_
          refine cx_eq ((qb_all hq0).2.2.2.2.1) ?_
          refine cx_bipush hx hb d_MO_keepRegister_151 rfl ?_
          refine cx_imul hx hb d_MO_keepRegister_153 ?_
          refine lv_ior hx hb d_MO_keepRegister_154 ?_
          refine cx_eq (bt_zd (by omega) (by omega)) ?_
          refine lv_iload_n hx hb d_MO_keepRegister_155 rfl (lv_at hl 0 rfl) ?_
          refine cx_iconst hx hb d_MO_keepRegister_156 ?_
          refine lv_ishr hx hb d_MO_keepRegister_157 ?_
          refine cx_eq ((qb_all hq0).2.2.2.2.2.1) ?_
          refine cx_iconst hx hb d_MO_keepRegister_158 ?_
          refine lv_iand hx hb d_MO_keepRegister_159 ?_
          refine cx_eq ((qb_all hq0).2.2.2.2.2.2) ?_
          refine cx_bipush hx hb d_MO_keepRegister_160 rfl ?_
          refine cx_imul hx hb d_MO_keepRegister_162 ?_
          refine lv_ior hx hb d_MO_keepRegister_163 ?_
          refine cx_eq (bt_q2 (by omega) (by omega)) ?_
          refine lv_i2b (v := iI (wrt (v % 10) + 16 * ((v / 1000) / 4))) hx hb d_MO_keepRegister_164 (i2b_ok (by omega)) ?_
          refine cx_bast (g := iF (fu (fu (x 0) ((x 12 0) - 2) (wrt ((v / 100) % 10) + 16 * ((v / 1000) % 4))) ((x 12 0) - 1) (wrt ((v / 10) % 10)))) (g' := iF (fu (fu (fu (x 0) ((x 12 0) - 2) (wrt ((v / 100) % 10) + 16 * ((v / 1000) % 4))) ((x 12 0) - 1) (wrt ((v / 10) % 10))) (x 12 0) (wrt (v % 10) + 16 * ((v / 1000) / 4)))) hx hb hK hP hD hS 1 1 rfl rfl (by omega) (by omega) (by omega) (fun j => iF_put j) d_MO_keepRegister_165 (fun H locs hP hD hS => ?_)
          have hP : va_P D vwCl (moW T q n (fu (fu (fu (x 0) ((x 12 0) - 2) (wrt ((v / 100) % 10) + 16 * ((v / 1000) % 4))) ((x 12 0) - 1) (wrt ((v / 10) % 10))) (x 12 0) (wrt (v % 10) + 16 * ((v / 1000) / 4))) (x 1) (mkF (x 2) (x 18 0)) (cdF (x 2) (x 18 0)) (x 3) (x 4) (x 11 0) (x 12 0) (x 13 0) (x 14 0) (x 15 0) (x 16 0) (x 17 0) (x 18 0) (x 19 0) (x 20 0) (x 21 0) (x 22 0) (y 31 0) (y 32 0) (y 33 0) (y 34 0) (y 35 0) (y 36 0) (y 37) (y 38) (y 39)) H := hP
          have hD : va_D A (moW T q n (fu (fu (fu (x 0) ((x 12 0) - 2) (wrt ((v / 100) % 10) + 16 * ((v / 1000) % 4))) ((x 12 0) - 1) (wrt ((v / 10) % 10))) (x 12 0) (wrt (v % 10) + 16 * ((v / 1000) / 4))) (x 1) (mkF (x 2) (x 18 0)) (cdF (x 2) (x 18 0)) (x 3) (x 4) (x 11 0) (x 12 0) (x 13 0) (x 14 0) (x 15 0) (x 16 0) (x 17 0) (x 18 0) (x 19 0) (x 20 0) (x 21 0) (x 22 0) (y 31 0) (y 32 0) (y 33 0) (y 34 0) (y 35 0) (y 36 0) (y 37) (y 38) (y 39)) := hD
          have hC : okC (fu (fu (fu (x 0) ((x 12 0) - 2) (wrt ((v / 100) % 10) + 16 * ((v / 1000) % 4))) ((x 12 0) - 1) (wrt ((v / 10) % 10))) (x 12 0) (wrt (v % 10) + 16 * ((v / 1000) / 4))) (x 1) := okC_fu hC (by omega)
          refine lv_aload_n hx hb d_MO_keepRegister_166 rfl (lv_at hl 2 rfl) ?_
          refine lv_dup hx hb d_MO_keepRegister_167 rfl ?_
          refine va_get (D := D) (ci := 5) (v := .int (iI (x 12 0))) (C := R_MO) (T := T_MO) (N := 28) hx hb hT lays_MO hown hK hP 0 rfl rfl 5 (by decide) (hT _ tw_641) (fun _ h9 => h9) rfl d_MO_keepRegister_168 ?_
          refine cx_iconst hx hb d_MO_keepRegister_171 ?_
          refine cx_isub hx hb d_MO_keepRegister_172 ?_
          refine va_put (D := D) (ci := 5) (v := .int (iI ((x 12 0) - 3))) (ty := .int) (C := R_MO) (T := T_MO) (N := 28) hx hb hT lays_MO t_MO t_MO_ok n_MO hown hK hP hD hS 0 rfl rfl 5 (by decide) (hT _ tw_641) (fun _ h9 => h9) rfl (by decide +kernel) rfl rfl (Nat.le_of_ble_eq_true rfl) d_MO_keepRegister_173 (fun H locs hP hD hS => ?_)
          have hP : va_P D vwCl (moW T q n (fu (fu (fu (x 0) ((x 12 0) - 2) (wrt ((v / 100) % 10) + 16 * ((v / 1000) % 4))) ((x 12 0) - 1) (wrt ((v / 10) % 10))) (x 12 0) (wrt (v % 10) + 16 * ((v / 1000) / 4))) (x 1) (mkF (x 2) (x 18 0)) (cdF (x 2) (x 18 0)) (x 3) (x 4) (x 11 0) ((x 12 0) - 3) (x 13 0) (x 14 0) (x 15 0) (x 16 0) (x 17 0) (x 18 0) (x 19 0) (x 20 0) (x 21 0) (x 22 0) (y 31 0) (y 32 0) (y 33 0) (y 34 0) (y 35 0) (y 36 0) (y 37) (y 38) (y 39)) H := hP
          have hD : va_D A (moW T q n (fu (fu (fu (x 0) ((x 12 0) - 2) (wrt ((v / 100) % 10) + 16 * ((v / 1000) % 4))) ((x 12 0) - 1) (wrt ((v / 10) % 10))) (x 12 0) (wrt (v % 10) + 16 * ((v / 1000) / 4))) (x 1) (mkF (x 2) (x 18 0)) (cdF (x 2) (x 18 0)) (x 3) (x 4) (x 11 0) ((x 12 0) - 3) (x 13 0) (x 14 0) (x 15 0) (x 16 0) (x 17 0) (x 18 0) (x 19 0) (x 20 0) (x 21 0) (x 22 0) (y 31 0) (y 32 0) (y 33 0) (y 34 0) (y 35 0) (y 36 0) (y 37) (y 38) (y 39)) := hD
          refine lv_aload_n hx hb d_MO_keepRegister_176 rfl (lv_at hl 2 rfl) ?_
          refine lv_aload_n hx hb d_MO_keepRegister_177 rfl (lv_at hl 2 rfl) ?_
          refine va_get (D := D) (ci := 5) (v := .int (iI (y 36 0))) (C := R_MO) (T := T_MO) (N := 28) hx hb hT lays_MO hown hK hP 0 rfl rfl 16 (by decide) (hT _ tw_652) (fun _ h9 => h9) rfl d_MO_keepRegister_178 ?_
          refine va_put (D := D) (ci := 5) (v := .int (iI (y 36 0))) (ty := .int) (C := R_MO) (T := T_MO) (N := 28) hx hb hT lays_MO t_MO t_MO_ok n_MO hown hK hP hD hS 0 rfl rfl 6 (by decide) (hT _ tw_642) (fun _ h9 => h9) rfl (by decide +kernel) rfl rfl (Nat.le_of_ble_eq_true rfl) d_MO_keepRegister_181 (fun H locs hP hD hS => ?_)
          have hP : va_P D vwCl (moW T q n (fu (fu (fu (x 0) ((x 12 0) - 2) (wrt ((v / 100) % 10) + 16 * ((v / 1000) % 4))) ((x 12 0) - 1) (wrt ((v / 10) % 10))) (x 12 0) (wrt (v % 10) + 16 * ((v / 1000) / 4))) (x 1) (mkF (x 2) (x 18 0)) (cdF (x 2) (x 18 0)) (x 3) (x 4) (x 11 0) ((x 12 0) - 3) (y 36 0) (x 14 0) (x 15 0) (x 16 0) (x 17 0) (x 18 0) (x 19 0) (x 20 0) (x 21 0) (x 22 0) (y 31 0) (y 32 0) (y 33 0) (y 34 0) (y 35 0) (y 36 0) (y 37) (y 38) (y 39)) H := hP
          have hD : va_D A (moW T q n (fu (fu (fu (x 0) ((x 12 0) - 2) (wrt ((v / 100) % 10) + 16 * ((v / 1000) % 4))) ((x 12 0) - 1) (wrt ((v / 10) % 10))) (x 12 0) (wrt (v % 10) + 16 * ((v / 1000) / 4))) (x 1) (mkF (x 2) (x 18 0)) (cdF (x 2) (x 18 0)) (x 3) (x 4) (x 11 0) ((x 12 0) - 3) (y 36 0) (x 14 0) (x 15 0) (x 16 0) (x 17 0) (x 18 0) (x 19 0) (x 20 0) (x 21 0) (x 22 0) (y 31 0) (y 32 0) (y 33 0) (y 34 0) (y 35 0) (y 36 0) (y 37) (y 38) (y 39)) := hD
          have hP : va_P D vwCl (moW T q n (fu (fu (fu (x 0) ((x 12 0) - 2) (wrt ((v / 100) % 10) + 16 * ((v / 1000) % 4))) ((x 12 0) - 1) (wrt ((v / 10) % 10))) (x 12 0) (wrt (v % 10) + 16 * ((v / 1000) / 4))) (x 1) (mkF (x 2) (x 18 0)) (cdF (x 2) (x 18 0)) (x 3) (x 4) (x 11 0) ((x 12 0) - 3) (x 13 0) (x 14 0) (x 15 0) (x 16 0) (x 17 0) (x 18 0) (x 19 0) (x 20 0) (x 21 0) (x 22 0) (y 31 0) (y 32 0) (y 33 0) (y 34 0) (y 35 0) (y 36 0) (y 37) (y 38) (y 39)) H := by rw [← hB]; exact hP
          have hD : va_D A (moW T q n (fu (fu (fu (x 0) ((x 12 0) - 2) (wrt ((v / 100) % 10) + 16 * ((v / 1000) % 4))) ((x 12 0) - 1) (wrt ((v / 10) % 10))) (x 12 0) (wrt (v % 10) + 16 * ((v / 1000) / 4))) (x 1) (mkF (x 2) (x 18 0)) (cdF (x 2) (x 18 0)) (x 3) (x 4) (x 11 0) ((x 12 0) - 3) (x 13 0) (x 14 0) (x 15 0) (x 16 0) (x 17 0) (x 18 0) (x 19 0) (x 20 0) (x 21 0) (x 22 0) (y 31 0) (y 32 0) (y 33 0) (y 34 0) (y 35 0) (y 36 0) (y 37) (y 38) (y 39)) := by rw [← hB]; exact hD
          refine cx_iconst hx hb d_MO_keepRegister_184 ?_
          exact hret ((up (up x 0 (fu (fu (fu (x 0) ((x 12 0) - 2) (wrt ((v / 100) % 10) + 16 * ((v / 1000) % 4))) ((x 12 0) - 1) (wrt ((v / 10) % 10))) (x 12 0) (wrt (v % 10) + 16 * ((v / 1000) / 4)))) 12 (cst ((x 12 0) - 3)), y) : SX × SX) (⟨pst_of (by unfold staS wad; rw [if_pos (by omega), show (if y 32 0 = 40 then y 35 0 else y 36 0) = -1 by split <;> omega, ← hv]) (show okX (up (up x 0 (fu (fu (fu (x 0) ((x 12 0) - 2) (wrt ((v / 100) % 10) + 16 * ((v / 1000) % 4))) ((x 12 0) - 1) (wrt ((v / 10) % 10))) (x 12 0) (wrt (v % 10) + 16 * ((v / 1000) / 4)))) 12 (cst ((x 12 0) - 3))) from ⟨hC, (show okR (x 11 0) ((x 12 0) - 3) (x 13 0) (x 14 0) (x 15 0) (x 16 0) (x 17 0) (x 18 0) (x 19 0) (x 20 0) by have h8 := hX.2.1; unfold okR at h8 ⊢; omega), hX.2.2⟩), ⟨rfl, rfl⟩⟩) hP hD hS d_MO_keepRegister_185
      refine lv_aload_n hx hb d_MO_keepRegister_26 rfl (lv_at hl 0 rfl) ?_
      refine va_get (D := D) (ci := 5) (v := .int (iI (y 32 0))) (C := R_MO) (T := T_MO) (N := 28) hx hb hT lays_MO hown hK hP 0 rfl rfl 12 (by decide) (hT _ tw_648) (fun _ h9 => h9) rfl d_MO_keepRegister_27 ?_
      refine cx_bipush hx hb d_MO_keepRegister_30 rfl ?_
      refine cx_icmp_ne (tgt := 42) hx hb d_MO_keepRegister_32 rfl (by omega) (by omega) (fun h32 => ?_) (fun h32 => ?_)
      · refine lv_aload_n hx hb d_MO_keepRegister_42 rfl (lv_at hl 0 rfl) ?_
        refine va_get (D := D) (ci := 5) (v := .int (iI (y 36 0))) (C := R_MO) (T := T_MO) (N := 28) hx hb hT lays_MO hown hK hP 0 rfl rfl 16 (by decide) (hT _ tw_652) (fun _ h9 => h9) rfl d_MO_keepRegister_43 ?_
        exact J46 (y 36 0) (by omega)
      · refine lv_aload_n hx hb d_MO_keepRegister_35 rfl (lv_at hl 0 rfl) ?_
        refine va_get (D := D) (ci := 5) (v := .int (iI (y 35 0))) (C := R_MO) (T := T_MO) (N := 28) hx hb hT lays_MO hown hK hP 0 rfl rfl 15 (by decide) (hT _ tw_651) (fun _ h9 => h9) rfl d_MO_keepRegister_36 ?_
        refine lv_goto (tgt := 46) hx hb d_MO_keepRegister_39 rfl ?_
        exact J46 (y 35 0) (by omega)
    · refine cx_if_ne (tgt := 26) hx hb d_MO_keepRegister_21 rfl (by omega) (fun h0 => absurd h0 (by decide)) (fun _ => ?_)
      refine cx_iconst hx hb d_MO_keepRegister_24 ?_
      exact hret ((x, y) : SX × SX) (⟨pst_of (by unfold staS; rw [if_neg (by omega)]) hX, ⟨rfl, rfl⟩⟩) hP hD hS d_MO_keepRegister_25
  · refine cx_if_eq (tgt := 24) hx hb d_MO_keepRegister_8 rfl (by omega) (fun _ => ?_) (fun h0 => absurd h0 (by decide))
    refine cx_iconst hx hb d_MO_keepRegister_24 ?_
    exact hret ((x, y) : SX × SX) (⟨pst_of (by unfold staS; rw [if_neg (by omega)]) hX, ⟨rfl, rfl⟩⟩) hP hD hS d_MO_keepRegister_25
