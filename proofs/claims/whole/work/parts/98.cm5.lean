/-! CharMachine: put, run -/

set_option maxHeartbeats 4000000 in
set_option maxRecDepth 100000 in
theorem c_CM_put (l : Launch) (D : va_G) (T : Nat → ClassId) (sz : Nat) (q : Nat → Nat) (n : Nat) (hn : 400 ≤ n ∧ n ≤ 2000) (d : Int → Int) (x : SX) (hX : okX x) (hlt : l.stackTraces = false) (z : Int) (hz : -2147483648 ≤ z ∧ z < 2147483648) (w : Int64) (mm : Int) : vx_Met l y_CM_put (wY y_CM_put b_CM_put 7 (some .int)) (rmX 6) (va_Pc [.ref (q 0), .int (iI (z)), .long (w), .int (iI (mm))] (cx_BX D vwCl (tyL T) nwL sz (cmW T q n d (x 0) (x 1) (x 2) (x 3) (x 4) (x 11 0) (x 12 0) (x 13 0) (x 14 0) (x 15 0) (x 16 0) (x 17 0) (x 18 0) (x 19 0) (x 20 0) (x 21 0) (x 22 0)))) (cxI D vwCl (fun r u => (r = iI (pcn w 9 0) ∧ u = putX z w mm x ∧ okX u) ∧ ¬ (0 < pcn w 9 0 ∧ ¬ (0 ≤ z ∧ z + pcn w 9 0 ≤ n))) (fun u => cmX T q n d u) (va_A (cmW T q n d (x 0) (x 1) (x 2) (x 3) (x 4) (x 11 0) (x 12 0) (x 13 0) (x 14 0) (x 15 0) (x 16 0) (x 17 0) (x 18 0) (x 19 0) (x 20 0) (x 21 0) (x 22 0)) sz)) (cxX D vwCl (cmW T q n d (x 0) (x 1) (x 2) (x 3) (x 4) (x 11 0) (x 12 0) (x 13 0) (x 14 0) (x 15 0) (x 16 0) (x 17 0) (x 18 0) (x 19 0) (x 20 0) (x 21 0) (x 22 0)) (fun E => E = xIA ∧ (0 < pcn w 9 0 ∧ ¬ (0 ≤ z ∧ z + pcn w 9 0 ≤ n))) (va_A (cmW T q n d (x 0) (x 1) (x 2) (x 3) (x 4) (x 11 0) (x 12 0) (x 13 0) (x 14 0) (x 15 0) (x 16 0) (x 17 0) (x 18 0) (x 19 0) (x 20 0) (x 21 0) (x 22 0)) sz)) 1 6 (va_A (cmW T q n d (x 0) (x 1) (x 2) (x 3) (x 4) (x 11 0) (x 12 0) (x 13 0) (x 14 0) (x 15 0) (x 16 0) (x 17 0) (x 18 0) (x 19 0) (x 20 0) (x 21 0) (x 22 0)) sz) := by
  refine cx_inXI hlt (by decide) rfl rfl (Nat.le_of_ble_eq_true rfl) (by decide) ?_
  intro p e s m below meth cd ls A Q hx hb hml hT hown hret hthr hP hK hD hN hS hA hl
  have hown : s.vm.findClass R_CM = some m.cls := hown
  have hl : lv_has ls 7 [(0, .ref (q 0)), (1, .int (iI (z))), (2, .long (w)), (4, .int (iI (mm)))] := hl
  have hC := hX.1
  have hR0 := hX.2.1
  have hF := hX.2.2
  unfold okR at hR0
  refine lv_lload_n hx hb d_CM_put_0 rfl (lv_at hl 2 rfl) ?_
  refine cx_cI (ws2 := fun _ => cmW T q n d (x 0) (x 1) (x 2) (x 3) (x 4) (x 11 0) (x 12 0) (x 13 0) (x 14 0) (x 15 0) (x 16 0) (x 17 0) (x 18 0) (x 19 0) (x 20 0) (x 21 0) (x 22 0)) (cx_rS (rest := []) (As := [.long (w)]) hx hb hml hown hT hK hN hP hD hl.1 tw_207 k_CM_charactersIn (c_CM_charactersIn l D T s.heap.size w) ⟨by decide, by decide⟩ ⟨rfl, rfl⟩ [] (by decide) rfl rfl rfl (Nat.le_of_ble_eq_true rfl) ⟨Nat.zero_le _, Nat.zero_le _⟩ d_CM_put_1) hP hD hS hA [] [0, 1, 2, 3, 4, 5, 6, 7, 8, 9, 10, 11] [0, 1, 2, 3, 4, 5, 6, 7, 8, 9, 10, 11] rfl (wr := [(q 0, .inr (4, [.ref (q 1), .ref (q 3), .ref (q 5), .ref (q 7), .ref (q 9), .int (iI (x 21 0)), .int (iI (x 22 0))])), (q 9, .inr (2, [.ref (q 1), .ref (q 3), .ref (q 5), .ref (q 7), .ref (q 10), .int (iI (x 11 0)), .int (iI (x 12 0)), .int (iI (x 13 0)), .int (iI (x 14 0)), .int (iI (x 15 0)), .int (iI (x 16 0)), .int (iI (x 17 0))])), (q 3, .inr (1, [.int (iI (20)), .int (iI (80)), .ref (q 4), .int (iI (x 18 0))])), (q 4, .inl (T 0, 1680, .inl (fun jj : Nat => (iF (x 2)) (jj : Int)))), (q 5, .inr (1, [.int (iI (40)), .int (iI (132)), .ref (q 6), .int (iI (x 19 0))])), (q 6, .inl (T 0, 5412, .inl (fun jj : Nat => (iF (x 3)) (jj : Int)))), (q 7, .inr (1, [.int (iI (20)), .int (iI (80)), .ref (q 8), .int (iI (x 20 0))])), (q 8, .inl (T 0, 1680, .inl (fun jj : Nat => (iF (x 4)) (jj : Int)))), (q 10, .inr (0, [.ref (q 1), .ref (q 11)])), (q 11, .inl (T 0, n, .inl (fun jj : Nat => (iF d) (jj : Int)))), (q 1, .inr (3, [.ref (q 2)])), (q 2, .inl (T 0, n, .inl (fun jj : Nat => (ceF (x 0) (x 1)) (jj : Int))))]) rfl (by decide) (by decide) (fun _ => rfl) (by decide) (fun r u_ H locs hq1 hP hD hS => ?_)
  subst hq1
  refine lv_istore (lv' := [(5, .int (iI (pcn w 9 0))), (0, .ref (q 0)), (1, .int (iI (z))), (2, .long (w)), (4, .int (iI (mm)))]) hx hb d_CM_put_4 hl (by decide) rfl (fun ls hl => ?_)
  have hk9 := pcn_in w 9 0 (by omega) (by omega) (by omega)
  obtain ⟨k, hk⟩ : ∃ zz, zz = pcn w 9 0 := ⟨_, rfl⟩
  rw [← hk] at hl hk9
  have hk8 := hk9.1
  have hk7 := hk9.2.1
  have hb9 := hk9.2.2
  refine lv_iload hx hb d_CM_put_6 (lv_at hl 0 rfl) ?_
  refine cx_if_le (tgt := 37) hx hb d_CM_put_8 rfl (by omega) (fun h8 => ?_) (fun h8 => ?_)
  · refine cx_iconst hx hb d_CM_put_37 ?_
    refine lv_istore (lv' := [(6, .int (iI (0))), (5, .int (iI (k))), (0, .ref (q 0)), (1, .int (iI (z))), (2, .long (w)), (4, .int (iI (mm)))]) hx hb d_CM_put_38 hl (by decide) rfl (fun ls hl => ?_)
    have L1 : ∀ (k_ : Nat) (i : Int) (H : Heap) (locs : List Loc) (ls : Array Slot), (0 ≤ i ∧ i ≤ k ∧ k - i < k_) → (okC (spa (x 0) z (i) (fun i => bty w i)) (spa (x 1) z (i) (fun i => if mkb mm i = 1 then 1 else 0))) → va_P D vwCl (cmW T q n d (spa (x 0) z (i) (fun i => bty w i)) (spa (x 1) z (i) (fun i => if mkb mm i = 1 then 1 else 0)) (x 2) (x 3) (x 4) (x 11 0) (x 12 0) (x 13 0) (x 14 0) (x 15 0) (x 16 0) (x 17 0) (x 18 0) (x 19 0) (x 20 0) (x 21 0) (x 22 0)) H → va_D A (cmW T q n d (spa (x 0) z (i) (fun i => bty w i)) (spa (x 1) z (i) (fun i => if mkb mm i = 1 then 1 else 0)) (x 2) (x 3) (x 4) (x 11 0) (x 12 0) (x 13 0) (x 14 0) (x 15 0) (x 16 0) (x 17 0) (x 18 0) (x 19 0) (x 20 0) (x 21 0) (x 22 0)) → va_S A s.heap H locs → lv_has ls 7 [(6, .int (iI (i))), (5, .int (iI (k))), (0, .ref (q 0)), (1, .int (iI (z))), (2, .long (w)), (4, .int (iI (mm)))] → W p l e (rmX 6) s m ([.ref (q 0), .int (iI (z)), .long (w), .int (iI (mm))] : List Value).toArray below meth cd H locs 0 0 Q (F0 m 40 ls []) := by
      intro k_
      induction k_ with
      | zero => intro i H locs ls hi hC _ _ _ _; exact absurd hi (by omega)
      | succ k_ ih1 =>
        intro i H locs ls hi hC hP hD hS hl
        refine lv_iload hx hb d_CM_put_40 (lv_at hl 0 rfl) ?_
        refine lv_iload hx hb d_CM_put_42 (lv_at hl 1 rfl) ?_
        refine cx_icmp_ge (tgt := 86) hx hb d_CM_put_44 rfl (by omega) (by omega) (fun h44 => ?_) (fun h44 => ?_)
        · obtain rfl : k = i := by omega
          refine lv_iload hx hb d_CM_put_86 (lv_at hl 1 rfl) ?_
          exact hret (up (up x 0 (spa (x 0) z (k) (fun i => bty w i))) 1 (spa (x 1) z (k) (fun i => if mkb mm i = 1 then 1 else 0))) (⟨⟨by rw [← hk], by unfold putX; rw [← hk], (show okX (up (up x 0 (spa (x 0) z (k) (fun i => bty w i))) 1 (spa (x 1) z (k) (fun i => if mkb mm i = 1 then 1 else 0))) from ⟨hC, (show okR (x 11 0) (x 12 0) (x 13 0) (x 14 0) (x 15 0) (x 16 0) (x 17 0) (x 18 0) (x 19 0) (x 20 0) by have h8 := hX.2.1; unfold okR at h8 ⊢; omega), hX.2.2⟩)⟩, by rw [← hk]; omega⟩) hP hD hS d_CM_put_88
        · refine lv_aload_n hx hb d_CM_put_47 rfl (lv_at hl 2 rfl) ?_
          refine va_get (D := D) (ci := 4) (v := .ref (q 1)) (C := R_CM) (T := T_CM) (N := 7) hx hb hT lays_CM hown hK hP 0 rfl rfl 0 (by decide) (hT _ tw_121) (fun _ h9 => h9) rfl d_CM_put_48 ?_
          refine lv_iload_n hx hb d_CM_put_51 rfl (lv_at hl 3 rfl) ?_
          refine lv_iload hx hb d_CM_put_52 (lv_at hl 0 rfl) ?_
          refine cx_iadd hx hb d_CM_put_54 ?_
          refine lv_lload_n hx hb d_CM_put_55 rfl (lv_at hl 4 rfl) ?_
          refine lv_iload hx hb d_CM_put_56 (lv_at hl 0 rfl) ?_
          refine cx_cI (ws2 := fun _ => cmW T q n d (spa (x 0) z (i) (fun i => bty w i)) (spa (x 1) z (i) (fun i => if mkb mm i = 1 then 1 else 0)) (x 2) (x 3) (x 4) (x 11 0) (x 12 0) (x 13 0) (x 14 0) (x 15 0) (x 16 0) (x 17 0) (x 18 0) (x 19 0) (x 20 0) (x 21 0) (x 22 0)) (cx_rS (rest := [.int (iI (z + i)), .ref (q 1)]) (As := [.long (w), .int (iI (i))]) hx hb hml hown hT hK hN hP hD hl.1 tw_210 k_CM_byteOf (c_CM_byteOf l D T H.size w i (by omega)) ⟨by decide, by decide⟩ ⟨rfl, rfl⟩ [] (by decide) rfl rfl rfl (Nat.le_of_ble_eq_true rfl) ⟨Nat.zero_le _, Nat.zero_le _⟩ d_CM_put_58) hP hD hS hA [] [0, 1, 2, 3, 4, 5, 6, 7, 8, 9, 10, 11] [0, 1, 2, 3, 4, 5, 6, 7, 8, 9, 10, 11] rfl (wr := [(q 0, .inr (4, [.ref (q 1), .ref (q 3), .ref (q 5), .ref (q 7), .ref (q 9), .int (iI (x 21 0)), .int (iI (x 22 0))])), (q 9, .inr (2, [.ref (q 1), .ref (q 3), .ref (q 5), .ref (q 7), .ref (q 10), .int (iI (x 11 0)), .int (iI (x 12 0)), .int (iI (x 13 0)), .int (iI (x 14 0)), .int (iI (x 15 0)), .int (iI (x 16 0)), .int (iI (x 17 0))])), (q 3, .inr (1, [.int (iI (20)), .int (iI (80)), .ref (q 4), .int (iI (x 18 0))])), (q 4, .inl (T 0, 1680, .inl (fun jj : Nat => (iF (x 2)) (jj : Int)))), (q 5, .inr (1, [.int (iI (40)), .int (iI (132)), .ref (q 6), .int (iI (x 19 0))])), (q 6, .inl (T 0, 5412, .inl (fun jj : Nat => (iF (x 3)) (jj : Int)))), (q 7, .inr (1, [.int (iI (20)), .int (iI (80)), .ref (q 8), .int (iI (x 20 0))])), (q 8, .inl (T 0, 1680, .inl (fun jj : Nat => (iF (x 4)) (jj : Int)))), (q 10, .inr (0, [.ref (q 1), .ref (q 11)])), (q 11, .inl (T 0, n, .inl (fun jj : Nat => (iF d) (jj : Int)))), (q 1, .inr (3, [.ref (q 2)])), (q 2, .inl (T 0, n, .inl (fun jj : Nat => (ceF (spa (x 0) z (i) (fun i => bty w i)) (spa (x 1) z (i) (fun i => if mkb mm i = 1 then 1 else 0))) (jj : Int))))]) rfl (by decide) (by decide) (fun _ => rfl) (by decide) (fun r u_ H locs hq58 hP hD hS => ?_)
          subst hq58
          have hb8 := bty_in w i
          have hb7 := hb9 i (by omega) (by omega)
          refine lv_iload hx hb d_CM_put_61 (lv_at hl 5 rfl) ?_
          refine lv_iload hx hb d_CM_put_63 (lv_at hl 0 rfl) ?_
          refine lv_ishr hx hb d_CM_put_65 ?_
          refine cx_eq (shI_e mm i) ?_
          refine cx_iconst hx hb d_CM_put_66 ?_
          refine lv_iand hx hb d_CM_put_67 ?_
          refine cx_eq (mkb_e mm i) ?_
          have hmb := mkb_in mm i
          refine cx_iconst hx hb d_CM_put_68 ?_
          refine cx_icmp_ne (tgt := 76) hx hb d_CM_put_69 rfl (by omega) (by omega) (fun h69 => ?_) (fun h69 => ?_)
          · refine cx_iconst hx hb d_CM_put_76 ?_
            refine cx_cV (ws2 := fun _ => cmW T q n d (fu (spa (x 0) z (i) (fun i => bty w i)) (z + i) (bty w i)) (fu (spa (x 1) z (i) (fun i => if mkb mm i = 1 then 1 else 0)) (z + i) (0)) (x 2) (x 3) (x 4) (x 11 0) (x 12 0) (x 13 0) (x 14 0) (x 15 0) (x 16 0) (x 17 0) (x 18 0) (x 19 0) (x 20 0) (x 21 0) (x 22 0)) (cx_rV (q0 := 10) (ci := 3) (rest := []) (As := [.int (iI (z + i)), .int (iI (bty w i)), .int (iI (0))]) hx hb hml hown hT hK hN hP hD hl.1 tw_154 k_ST_place (c_ST_place l D T H.size q n (spa (x 0) z (i) (fun i => bty w i)) (spa (x 1) z (i) (fun i => if mkb mm i = 1 then 1 else 0)) hn (z + i) (by omega) (bty w i) (by omega) 0 (by omega)) ⟨by decide, by decide⟩ ⟨rfl, rfl⟩ [10, 11] (by decide) rfl rfl rfl rfl rfl (Nat.le_of_ble_eq_true rfl) ⟨Nat.zero_le _, Nat.zero_le _⟩ d_CM_put_77) hP hD hS hA [10, 11] [0, 1, 2, 3, 4, 5, 6, 7, 8, 9] [0, 1, 2, 3, 4, 5, 6, 7, 8, 9, 10, 11] rfl (wr := [(q 0, .inr (4, [.ref (q 1), .ref (q 3), .ref (q 5), .ref (q 7), .ref (q 9), .int (iI (x 21 0)), .int (iI (x 22 0))])), (q 9, .inr (2, [.ref (q 1), .ref (q 3), .ref (q 5), .ref (q 7), .ref (q 10), .int (iI (x 11 0)), .int (iI (x 12 0)), .int (iI (x 13 0)), .int (iI (x 14 0)), .int (iI (x 15 0)), .int (iI (x 16 0)), .int (iI (x 17 0))])), (q 3, .inr (1, [.int (iI (20)), .int (iI (80)), .ref (q 4), .int (iI (x 18 0))])), (q 4, .inl (T 0, 1680, .inl (fun jj : Nat => (iF (x 2)) (jj : Int)))), (q 5, .inr (1, [.int (iI (40)), .int (iI (132)), .ref (q 6), .int (iI (x 19 0))])), (q 6, .inl (T 0, 5412, .inl (fun jj : Nat => (iF (x 3)) (jj : Int)))), (q 7, .inr (1, [.int (iI (20)), .int (iI (80)), .ref (q 8), .int (iI (x 20 0))])), (q 8, .inl (T 0, 1680, .inl (fun jj : Nat => (iF (x 4)) (jj : Int)))), (q 10, .inr (0, [.ref (q 1), .ref (q 11)])), (q 11, .inl (T 0, n, .inl (fun jj : Nat => (iF d) (jj : Int))))]) rfl (by decide) (by decide) (fun _ => rfl) (by decide) (fun u_ H locs hq77 hP hD hS => ?_)
            have hC : okC (fu (spa (x 0) z (i) (fun i => bty w i)) (z + i) (bty w i)) (fu (spa (x 1) z (i) (fun i => if mkb mm i = 1 then 1 else 0)) (z + i) (0)) := okC_mk (okC_fu hC (by omega)) (by omega)
            refine cx_iinc (k := 0) (lv' := [(6, .int (iI (i + 1))), (5, .int (iI (k))), (0, .ref (q 0)), (1, .int (iI (z))), (2, .long (w)), (4, .int (iI (mm)))]) hx hb d_CM_put_80 hl rfl (by decide) rfl (fun ls hl => ?_)
            refine lv_goto (tgt := 40) hx hb d_CM_put_83 rfl ?_
            rw [spa_step (F := (fun i => bty w i)) (k2 := i + 1) (by omega) rfl rfl rfl, spa_step (F := (fun i => if mkb mm i = 1 then 1 else 0)) (k2 := i + 1) (by omega) rfl rfl (by show (if mkb mm i = 1 then (1 : Int) else 0) = _; rw [if_neg (by omega)])] at hP hD hC
            exact ih1 (i + 1) _ _ _ (by omega) hC hP hD hS (lv_sub hl [0, 1, 2, 3, 4, 5] rfl)
          · refine cx_iconst hx hb d_CM_put_72 ?_
            refine lv_goto (tgt := 77) hx hb d_CM_put_73 rfl ?_
            refine cx_cV (ws2 := fun _ => cmW T q n d (fu (spa (x 0) z (i) (fun i => bty w i)) (z + i) (bty w i)) (fu (spa (x 1) z (i) (fun i => if mkb mm i = 1 then 1 else 0)) (z + i) (1)) (x 2) (x 3) (x 4) (x 11 0) (x 12 0) (x 13 0) (x 14 0) (x 15 0) (x 16 0) (x 17 0) (x 18 0) (x 19 0) (x 20 0) (x 21 0) (x 22 0)) (cx_rV (q0 := 10) (ci := 3) (rest := []) (As := [.int (iI (z + i)), .int (iI (bty w i)), .int (iI (1))]) hx hb hml hown hT hK hN hP hD hl.1 tw_154 k_ST_place (c_ST_place l D T H.size q n (spa (x 0) z (i) (fun i => bty w i)) (spa (x 1) z (i) (fun i => if mkb mm i = 1 then 1 else 0)) hn (z + i) (by omega) (bty w i) (by omega) 1 (by omega)) ⟨by decide, by decide⟩ ⟨rfl, rfl⟩ [10, 11] (by decide) rfl rfl rfl rfl rfl (Nat.le_of_ble_eq_true rfl) ⟨Nat.zero_le _, Nat.zero_le _⟩ d_CM_put_77) hP hD hS hA [10, 11] [0, 1, 2, 3, 4, 5, 6, 7, 8, 9] [0, 1, 2, 3, 4, 5, 6, 7, 8, 9, 10, 11] rfl (wr := [(q 0, .inr (4, [.ref (q 1), .ref (q 3), .ref (q 5), .ref (q 7), .ref (q 9), .int (iI (x 21 0)), .int (iI (x 22 0))])), (q 9, .inr (2, [.ref (q 1), .ref (q 3), .ref (q 5), .ref (q 7), .ref (q 10), .int (iI (x 11 0)), .int (iI (x 12 0)), .int (iI (x 13 0)), .int (iI (x 14 0)), .int (iI (x 15 0)), .int (iI (x 16 0)), .int (iI (x 17 0))])), (q 3, .inr (1, [.int (iI (20)), .int (iI (80)), .ref (q 4), .int (iI (x 18 0))])), (q 4, .inl (T 0, 1680, .inl (fun jj : Nat => (iF (x 2)) (jj : Int)))), (q 5, .inr (1, [.int (iI (40)), .int (iI (132)), .ref (q 6), .int (iI (x 19 0))])), (q 6, .inl (T 0, 5412, .inl (fun jj : Nat => (iF (x 3)) (jj : Int)))), (q 7, .inr (1, [.int (iI (20)), .int (iI (80)), .ref (q 8), .int (iI (x 20 0))])), (q 8, .inl (T 0, 1680, .inl (fun jj : Nat => (iF (x 4)) (jj : Int)))), (q 10, .inr (0, [.ref (q 1), .ref (q 11)])), (q 11, .inl (T 0, n, .inl (fun jj : Nat => (iF d) (jj : Int))))]) rfl (by decide) (by decide) (fun _ => rfl) (by decide) (fun u_ H locs hq77 hP hD hS => ?_)
            have hC : okC (fu (spa (x 0) z (i) (fun i => bty w i)) (z + i) (bty w i)) (fu (spa (x 1) z (i) (fun i => if mkb mm i = 1 then 1 else 0)) (z + i) (1)) := okC_mk (okC_fu hC (by omega)) (by omega)
            refine cx_iinc (k := 0) (lv' := [(6, .int (iI (i + 1))), (5, .int (iI (k))), (0, .ref (q 0)), (1, .int (iI (z))), (2, .long (w)), (4, .int (iI (mm)))]) hx hb d_CM_put_80 hl rfl (by decide) rfl (fun ls hl => ?_)
            refine lv_goto (tgt := 40) hx hb d_CM_put_83 rfl ?_
            rw [spa_step (F := (fun i => bty w i)) (k2 := i + 1) (by omega) rfl rfl rfl, spa_step (F := (fun i => if mkb mm i = 1 then 1 else 0)) (k2 := i + 1) (by omega) rfl rfl (by show (if mkb mm i = 1 then (1 : Int) else 0) = _; rw [if_pos (by omega)])] at hP hD hC
            exact ih1 (i + 1) _ _ _ (by omega) hC hP hD hS (lv_sub hl [0, 1, 2, 3, 4, 5] rfl)
    rw [← spa_0 (x 0) z (fun i => bty w i), ← spa_0 (x 1) z (fun i => if mkb mm i = 1 then 1 else 0)] at hP hD
    exact L1 10 0 _ _ _ (by omega) (by rw [spa_0, spa_0]; exact hC) hP hD hS (lv_sub hl [0, 1, 2, 3, 4, 5] rfl)
  · refine lv_iload_n hx hb d_CM_put_11 rfl (lv_at hl 2 rfl) ?_
    refine cx_if_lt (tgt := 29) hx hb d_CM_put_12 rfl (by omega) (fun h12 => ?_) (fun h12 => ?_)
    · exact hthr xw_IA (⟨rfl, by rw [← hk]; omega⟩) hl.1 d_CM_put_29 d_CM_put_32 d_CM_put_33 d_CM_put_36 hP hD hS
    · refine lv_iload_n hx hb d_CM_put_15 rfl (lv_at hl 2 rfl) ?_
      refine lv_aload_n hx hb d_CM_put_16 rfl (lv_at hl 1 rfl) ?_
      refine va_get (D := D) (ci := 4) (v := .ref (q 1)) (C := R_CM) (T := T_CM) (N := 7) hx hb hT lays_CM hown hK hP 0 rfl rfl 0 (by decide) (hT _ tw_121) (fun _ h9 => h9) rfl d_CM_put_17 ?_
      refine cx_cI (ws2 := fun _ => cmW T q n d (x 0) (x 1) (x 2) (x 3) (x 4) (x 11 0) (x 12 0) (x 13 0) (x 14 0) (x 15 0) (x 16 0) (x 17 0) (x 18 0) (x 19 0) (x 20 0) (x 21 0) (x 22 0)) (cx_rV (q0 := 10) (ci := 3) (rest := [.int (iI (z))]) (As := []) hx hb hml hown hT hK hN hP hD hl.1 tw_174 k_ST_size (c_ST_size l D T H.size q n (x 0) (x 1) hn ) ⟨by decide, by decide⟩ ⟨rfl, rfl⟩ [10, 11] (by decide) rfl rfl rfl rfl rfl (Nat.le_of_ble_eq_true rfl) ⟨Nat.zero_le _, Nat.zero_le _⟩ d_CM_put_20) hP hD hS hA [10, 11] [0, 1, 2, 3, 4, 5, 6, 7, 8, 9] [0, 1, 2, 3, 4, 5, 6, 7, 8, 9, 10, 11] rfl (wr := [(q 0, .inr (4, [.ref (q 1), .ref (q 3), .ref (q 5), .ref (q 7), .ref (q 9), .int (iI (x 21 0)), .int (iI (x 22 0))])), (q 9, .inr (2, [.ref (q 1), .ref (q 3), .ref (q 5), .ref (q 7), .ref (q 10), .int (iI (x 11 0)), .int (iI (x 12 0)), .int (iI (x 13 0)), .int (iI (x 14 0)), .int (iI (x 15 0)), .int (iI (x 16 0)), .int (iI (x 17 0))])), (q 3, .inr (1, [.int (iI (20)), .int (iI (80)), .ref (q 4), .int (iI (x 18 0))])), (q 4, .inl (T 0, 1680, .inl (fun jj : Nat => (iF (x 2)) (jj : Int)))), (q 5, .inr (1, [.int (iI (40)), .int (iI (132)), .ref (q 6), .int (iI (x 19 0))])), (q 6, .inl (T 0, 5412, .inl (fun jj : Nat => (iF (x 3)) (jj : Int)))), (q 7, .inr (1, [.int (iI (20)), .int (iI (80)), .ref (q 8), .int (iI (x 20 0))])), (q 8, .inl (T 0, 1680, .inl (fun jj : Nat => (iF (x 4)) (jj : Int)))), (q 10, .inr (0, [.ref (q 1), .ref (q 11)])), (q 11, .inl (T 0, n, .inl (fun jj : Nat => (iF d) (jj : Int))))]) rfl (by decide) (by decide) (fun _ => rfl) (by decide) (fun r u_ H locs hq20 hP hD hS => ?_)
      subst hq20
      refine lv_iload hx hb d_CM_put_23 (lv_at hl 0 rfl) ?_
      refine cx_isub hx hb d_CM_put_25 ?_
      refine cx_icmp_le (tgt := 37) hx hb d_CM_put_26 rfl (by omega) (by omega) (fun h26 => ?_) (fun h26 => ?_)
      · refine cx_iconst hx hb d_CM_put_37 ?_
        refine lv_istore (lv' := [(6, .int (iI (0))), (5, .int (iI (k))), (0, .ref (q 0)), (1, .int (iI (z))), (2, .long (w)), (4, .int (iI (mm)))]) hx hb d_CM_put_38 hl (by decide) rfl (fun ls hl => ?_)
        have L1 : ∀ (k_ : Nat) (i : Int) (H : Heap) (locs : List Loc) (ls : Array Slot), (0 ≤ i ∧ i ≤ k ∧ k - i < k_) → (okC (spa (x 0) z (i) (fun i => bty w i)) (spa (x 1) z (i) (fun i => if mkb mm i = 1 then 1 else 0))) → va_P D vwCl (cmW T q n d (spa (x 0) z (i) (fun i => bty w i)) (spa (x 1) z (i) (fun i => if mkb mm i = 1 then 1 else 0)) (x 2) (x 3) (x 4) (x 11 0) (x 12 0) (x 13 0) (x 14 0) (x 15 0) (x 16 0) (x 17 0) (x 18 0) (x 19 0) (x 20 0) (x 21 0) (x 22 0)) H → va_D A (cmW T q n d (spa (x 0) z (i) (fun i => bty w i)) (spa (x 1) z (i) (fun i => if mkb mm i = 1 then 1 else 0)) (x 2) (x 3) (x 4) (x 11 0) (x 12 0) (x 13 0) (x 14 0) (x 15 0) (x 16 0) (x 17 0) (x 18 0) (x 19 0) (x 20 0) (x 21 0) (x 22 0)) → va_S A s.heap H locs → lv_has ls 7 [(6, .int (iI (i))), (5, .int (iI (k))), (0, .ref (q 0)), (1, .int (iI (z))), (2, .long (w)), (4, .int (iI (mm)))] → W p l e (rmX 6) s m ([.ref (q 0), .int (iI (z)), .long (w), .int (iI (mm))] : List Value).toArray below meth cd H locs 0 0 Q (F0 m 40 ls []) := by
          intro k_
          induction k_ with
          | zero => intro i H locs ls hi hC _ _ _ _; exact absurd hi (by omega)
          | succ k_ ih1 =>
            intro i H locs ls hi hC hP hD hS hl
            refine lv_iload hx hb d_CM_put_40 (lv_at hl 0 rfl) ?_
            refine lv_iload hx hb d_CM_put_42 (lv_at hl 1 rfl) ?_
            refine cx_icmp_ge (tgt := 86) hx hb d_CM_put_44 rfl (by omega) (by omega) (fun h44 => ?_) (fun h44 => ?_)
            · obtain rfl : k = i := by omega
              refine lv_iload hx hb d_CM_put_86 (lv_at hl 1 rfl) ?_
              exact hret (up (up x 0 (spa (x 0) z (k) (fun i => bty w i))) 1 (spa (x 1) z (k) (fun i => if mkb mm i = 1 then 1 else 0))) (⟨⟨by rw [← hk], by unfold putX; rw [← hk], (show okX (up (up x 0 (spa (x 0) z (k) (fun i => bty w i))) 1 (spa (x 1) z (k) (fun i => if mkb mm i = 1 then 1 else 0))) from ⟨hC, (show okR (x 11 0) (x 12 0) (x 13 0) (x 14 0) (x 15 0) (x 16 0) (x 17 0) (x 18 0) (x 19 0) (x 20 0) by have h8 := hX.2.1; unfold okR at h8 ⊢; omega), hX.2.2⟩)⟩, by rw [← hk]; omega⟩) hP hD hS d_CM_put_88
            · refine lv_aload_n hx hb d_CM_put_47 rfl (lv_at hl 2 rfl) ?_
              refine va_get (D := D) (ci := 4) (v := .ref (q 1)) (C := R_CM) (T := T_CM) (N := 7) hx hb hT lays_CM hown hK hP 0 rfl rfl 0 (by decide) (hT _ tw_121) (fun _ h9 => h9) rfl d_CM_put_48 ?_
              refine lv_iload_n hx hb d_CM_put_51 rfl (lv_at hl 3 rfl) ?_
              refine lv_iload hx hb d_CM_put_52 (lv_at hl 0 rfl) ?_
              refine cx_iadd hx hb d_CM_put_54 ?_
              refine lv_lload_n hx hb d_CM_put_55 rfl (lv_at hl 4 rfl) ?_
              refine lv_iload hx hb d_CM_put_56 (lv_at hl 0 rfl) ?_
              refine cx_cI (ws2 := fun _ => cmW T q n d (spa (x 0) z (i) (fun i => bty w i)) (spa (x 1) z (i) (fun i => if mkb mm i = 1 then 1 else 0)) (x 2) (x 3) (x 4) (x 11 0) (x 12 0) (x 13 0) (x 14 0) (x 15 0) (x 16 0) (x 17 0) (x 18 0) (x 19 0) (x 20 0) (x 21 0) (x 22 0)) (cx_rS (rest := [.int (iI (z + i)), .ref (q 1)]) (As := [.long (w), .int (iI (i))]) hx hb hml hown hT hK hN hP hD hl.1 tw_210 k_CM_byteOf (c_CM_byteOf l D T H.size w i (by omega)) ⟨by decide, by decide⟩ ⟨rfl, rfl⟩ [] (by decide) rfl rfl rfl (Nat.le_of_ble_eq_true rfl) ⟨Nat.zero_le _, Nat.zero_le _⟩ d_CM_put_58) hP hD hS hA [] [0, 1, 2, 3, 4, 5, 6, 7, 8, 9, 10, 11] [0, 1, 2, 3, 4, 5, 6, 7, 8, 9, 10, 11] rfl (wr := [(q 0, .inr (4, [.ref (q 1), .ref (q 3), .ref (q 5), .ref (q 7), .ref (q 9), .int (iI (x 21 0)), .int (iI (x 22 0))])), (q 9, .inr (2, [.ref (q 1), .ref (q 3), .ref (q 5), .ref (q 7), .ref (q 10), .int (iI (x 11 0)), .int (iI (x 12 0)), .int (iI (x 13 0)), .int (iI (x 14 0)), .int (iI (x 15 0)), .int (iI (x 16 0)), .int (iI (x 17 0))])), (q 3, .inr (1, [.int (iI (20)), .int (iI (80)), .ref (q 4), .int (iI (x 18 0))])), (q 4, .inl (T 0, 1680, .inl (fun jj : Nat => (iF (x 2)) (jj : Int)))), (q 5, .inr (1, [.int (iI (40)), .int (iI (132)), .ref (q 6), .int (iI (x 19 0))])), (q 6, .inl (T 0, 5412, .inl (fun jj : Nat => (iF (x 3)) (jj : Int)))), (q 7, .inr (1, [.int (iI (20)), .int (iI (80)), .ref (q 8), .int (iI (x 20 0))])), (q 8, .inl (T 0, 1680, .inl (fun jj : Nat => (iF (x 4)) (jj : Int)))), (q 10, .inr (0, [.ref (q 1), .ref (q 11)])), (q 11, .inl (T 0, n, .inl (fun jj : Nat => (iF d) (jj : Int)))), (q 1, .inr (3, [.ref (q 2)])), (q 2, .inl (T 0, n, .inl (fun jj : Nat => (ceF (spa (x 0) z (i) (fun i => bty w i)) (spa (x 1) z (i) (fun i => if mkb mm i = 1 then 1 else 0))) (jj : Int))))]) rfl (by decide) (by decide) (fun _ => rfl) (by decide) (fun r u_ H locs hq58 hP hD hS => ?_)
              subst hq58
              have hb8 := bty_in w i
              have hb7 := hb9 i (by omega) (by omega)
              refine lv_iload hx hb d_CM_put_61 (lv_at hl 5 rfl) ?_
              refine lv_iload hx hb d_CM_put_63 (lv_at hl 0 rfl) ?_
              refine lv_ishr hx hb d_CM_put_65 ?_
              refine cx_eq (shI_e mm i) ?_
              refine cx_iconst hx hb d_CM_put_66 ?_
              refine lv_iand hx hb d_CM_put_67 ?_
              refine cx_eq (mkb_e mm i) ?_
              have hmb := mkb_in mm i
              refine cx_iconst hx hb d_CM_put_68 ?_
              refine cx_icmp_ne (tgt := 76) hx hb d_CM_put_69 rfl (by omega) (by omega) (fun h69 => ?_) (fun h69 => ?_)
              · refine cx_iconst hx hb d_CM_put_76 ?_
                refine cx_cV (ws2 := fun _ => cmW T q n d (fu (spa (x 0) z (i) (fun i => bty w i)) (z + i) (bty w i)) (fu (spa (x 1) z (i) (fun i => if mkb mm i = 1 then 1 else 0)) (z + i) (0)) (x 2) (x 3) (x 4) (x 11 0) (x 12 0) (x 13 0) (x 14 0) (x 15 0) (x 16 0) (x 17 0) (x 18 0) (x 19 0) (x 20 0) (x 21 0) (x 22 0)) (cx_rV (q0 := 10) (ci := 3) (rest := []) (As := [.int (iI (z + i)), .int (iI (bty w i)), .int (iI (0))]) hx hb hml hown hT hK hN hP hD hl.1 tw_154 k_ST_place (c_ST_place l D T H.size q n (spa (x 0) z (i) (fun i => bty w i)) (spa (x 1) z (i) (fun i => if mkb mm i = 1 then 1 else 0)) hn (z + i) (by omega) (bty w i) (by omega) 0 (by omega)) ⟨by decide, by decide⟩ ⟨rfl, rfl⟩ [10, 11] (by decide) rfl rfl rfl rfl rfl (Nat.le_of_ble_eq_true rfl) ⟨Nat.zero_le _, Nat.zero_le _⟩ d_CM_put_77) hP hD hS hA [10, 11] [0, 1, 2, 3, 4, 5, 6, 7, 8, 9] [0, 1, 2, 3, 4, 5, 6, 7, 8, 9, 10, 11] rfl (wr := [(q 0, .inr (4, [.ref (q 1), .ref (q 3), .ref (q 5), .ref (q 7), .ref (q 9), .int (iI (x 21 0)), .int (iI (x 22 0))])), (q 9, .inr (2, [.ref (q 1), .ref (q 3), .ref (q 5), .ref (q 7), .ref (q 10), .int (iI (x 11 0)), .int (iI (x 12 0)), .int (iI (x 13 0)), .int (iI (x 14 0)), .int (iI (x 15 0)), .int (iI (x 16 0)), .int (iI (x 17 0))])), (q 3, .inr (1, [.int (iI (20)), .int (iI (80)), .ref (q 4), .int (iI (x 18 0))])), (q 4, .inl (T 0, 1680, .inl (fun jj : Nat => (iF (x 2)) (jj : Int)))), (q 5, .inr (1, [.int (iI (40)), .int (iI (132)), .ref (q 6), .int (iI (x 19 0))])), (q 6, .inl (T 0, 5412, .inl (fun jj : Nat => (iF (x 3)) (jj : Int)))), (q 7, .inr (1, [.int (iI (20)), .int (iI (80)), .ref (q 8), .int (iI (x 20 0))])), (q 8, .inl (T 0, 1680, .inl (fun jj : Nat => (iF (x 4)) (jj : Int)))), (q 10, .inr (0, [.ref (q 1), .ref (q 11)])), (q 11, .inl (T 0, n, .inl (fun jj : Nat => (iF d) (jj : Int))))]) rfl (by decide) (by decide) (fun _ => rfl) (by decide) (fun u_ H locs hq77 hP hD hS => ?_)
                have hC : okC (fu (spa (x 0) z (i) (fun i => bty w i)) (z + i) (bty w i)) (fu (spa (x 1) z (i) (fun i => if mkb mm i = 1 then 1 else 0)) (z + i) (0)) := okC_mk (okC_fu hC (by omega)) (by omega)
                refine cx_iinc (k := 0) (lv' := [(6, .int (iI (i + 1))), (5, .int (iI (k))), (0, .ref (q 0)), (1, .int (iI (z))), (2, .long (w)), (4, .int (iI (mm)))]) hx hb d_CM_put_80 hl rfl (by decide) rfl (fun ls hl => ?_)
                refine lv_goto (tgt := 40) hx hb d_CM_put_83 rfl ?_
                rw [spa_step (F := (fun i => bty w i)) (k2 := i + 1) (by omega) rfl rfl rfl, spa_step (F := (fun i => if mkb mm i = 1 then 1 else 0)) (k2 := i + 1) (by omega) rfl rfl (by show (if mkb mm i = 1 then (1 : Int) else 0) = _; rw [if_neg (by omega)])] at hP hD hC
                exact ih1 (i + 1) _ _ _ (by omega) hC hP hD hS (lv_sub hl [0, 1, 2, 3, 4, 5] rfl)
              · refine cx_iconst hx hb d_CM_put_72 ?_
                refine lv_goto (tgt := 77) hx hb d_CM_put_73 rfl ?_
                refine cx_cV (ws2 := fun _ => cmW T q n d (fu (spa (x 0) z (i) (fun i => bty w i)) (z + i) (bty w i)) (fu (spa (x 1) z (i) (fun i => if mkb mm i = 1 then 1 else 0)) (z + i) (1)) (x 2) (x 3) (x 4) (x 11 0) (x 12 0) (x 13 0) (x 14 0) (x 15 0) (x 16 0) (x 17 0) (x 18 0) (x 19 0) (x 20 0) (x 21 0) (x 22 0)) (cx_rV (q0 := 10) (ci := 3) (rest := []) (As := [.int (iI (z + i)), .int (iI (bty w i)), .int (iI (1))]) hx hb hml hown hT hK hN hP hD hl.1 tw_154 k_ST_place (c_ST_place l D T H.size q n (spa (x 0) z (i) (fun i => bty w i)) (spa (x 1) z (i) (fun i => if mkb mm i = 1 then 1 else 0)) hn (z + i) (by omega) (bty w i) (by omega) 1 (by omega)) ⟨by decide, by decide⟩ ⟨rfl, rfl⟩ [10, 11] (by decide) rfl rfl rfl rfl rfl (Nat.le_of_ble_eq_true rfl) ⟨Nat.zero_le _, Nat.zero_le _⟩ d_CM_put_77) hP hD hS hA [10, 11] [0, 1, 2, 3, 4, 5, 6, 7, 8, 9] [0, 1, 2, 3, 4, 5, 6, 7, 8, 9, 10, 11] rfl (wr := [(q 0, .inr (4, [.ref (q 1), .ref (q 3), .ref (q 5), .ref (q 7), .ref (q 9), .int (iI (x 21 0)), .int (iI (x 22 0))])), (q 9, .inr (2, [.ref (q 1), .ref (q 3), .ref (q 5), .ref (q 7), .ref (q 10), .int (iI (x 11 0)), .int (iI (x 12 0)), .int (iI (x 13 0)), .int (iI (x 14 0)), .int (iI (x 15 0)), .int (iI (x 16 0)), .int (iI (x 17 0))])), (q 3, .inr (1, [.int (iI (20)), .int (iI (80)), .ref (q 4), .int (iI (x 18 0))])), (q 4, .inl (T 0, 1680, .inl (fun jj : Nat => (iF (x 2)) (jj : Int)))), (q 5, .inr (1, [.int (iI (40)), .int (iI (132)), .ref (q 6), .int (iI (x 19 0))])), (q 6, .inl (T 0, 5412, .inl (fun jj : Nat => (iF (x 3)) (jj : Int)))), (q 7, .inr (1, [.int (iI (20)), .int (iI (80)), .ref (q 8), .int (iI (x 20 0))])), (q 8, .inl (T 0, 1680, .inl (fun jj : Nat => (iF (x 4)) (jj : Int)))), (q 10, .inr (0, [.ref (q 1), .ref (q 11)])), (q 11, .inl (T 0, n, .inl (fun jj : Nat => (iF d) (jj : Int))))]) rfl (by decide) (by decide) (fun _ => rfl) (by decide) (fun u_ H locs hq77 hP hD hS => ?_)
                have hC : okC (fu (spa (x 0) z (i) (fun i => bty w i)) (z + i) (bty w i)) (fu (spa (x 1) z (i) (fun i => if mkb mm i = 1 then 1 else 0)) (z + i) (1)) := okC_mk (okC_fu hC (by omega)) (by omega)
                refine cx_iinc (k := 0) (lv' := [(6, .int (iI (i + 1))), (5, .int (iI (k))), (0, .ref (q 0)), (1, .int (iI (z))), (2, .long (w)), (4, .int (iI (mm)))]) hx hb d_CM_put_80 hl rfl (by decide) rfl (fun ls hl => ?_)
                refine lv_goto (tgt := 40) hx hb d_CM_put_83 rfl ?_
                rw [spa_step (F := (fun i => bty w i)) (k2 := i + 1) (by omega) rfl rfl rfl, spa_step (F := (fun i => if mkb mm i = 1 then 1 else 0)) (k2 := i + 1) (by omega) rfl rfl (by show (if mkb mm i = 1 then (1 : Int) else 0) = _; rw [if_pos (by omega)])] at hP hD hC
                exact ih1 (i + 1) _ _ _ (by omega) hC hP hD hS (lv_sub hl [0, 1, 2, 3, 4, 5] rfl)
        rw [← spa_0 (x 0) z (fun i => bty w i), ← spa_0 (x 1) z (fun i => if mkb mm i = 1 then 1 else 0)] at hP hD
        exact L1 10 0 _ _ _ (by omega) (by rw [spa_0, spa_0]; exact hC) hP hD hS (lv_sub hl [0, 1, 2, 3, 4, 5] rfl)
      · exact hthr xw_IA (⟨rfl, by rw [← hk]; omega⟩) hl.1 d_CM_put_29 d_CM_put_32 d_CM_put_33 d_CM_put_36 hP hD hS

set_option maxHeartbeats 4000000 in
set_option maxRecDepth 100000 in
theorem c_CM_run (l : Launch) (D : va_G) (T : Nat → ClassId) (sz : Nat) (q : Nat → Nat) (n : Nat) (hn : 400 ≤ n ∧ n ≤ 2000) (d : Int → Int) (x : SX) (hX : okX x) (hlt : l.stackTraces = false) (v : Int) (hv : -2147483648 ≤ v ∧ v < 2147483648) : vx_Met l y_CM_run (wY y_CM_run b_CM_run 4 (some .int)) (rmX 6) (va_Pc [.ref (q 0), .int (iI (v))] (cx_BX D vwCl (tyL T) nwL sz (cmW T q n d (x 0) (x 1) (x 2) (x 3) (x 4) (x 11 0) (x 12 0) (x 13 0) (x 14 0) (x 15 0) (x 16 0) (x 17 0) (x 18 0) (x 19 0) (x 20 0) (x 21 0) (x 22 0)))) (cxI D vwCl (fun r (u : SX × (Int → Int)) => (1 ≤ v ∧ v ≤ 20000) ∧ pst (runS n v x) r u.1) (fun (u : SX × (Int → Int)) => cmX T q n u.2 u.1) (va_A (cmW T q n d (x 0) (x 1) (x 2) (x 3) (x 4) (x 11 0) (x 12 0) (x 13 0) (x 14 0) (x 15 0) (x 16 0) (x 17 0) (x 18 0) (x 19 0) (x 20 0) (x 21 0) (x 22 0)) sz)) (cxX D vwCl (cmW T q n d (x 0) (x 1) (x 2) (x 3) (x 4) (x 11 0) (x 12 0) (x 13 0) (x 14 0) (x 15 0) (x 16 0) (x 17 0) (x 18 0) (x 19 0) (x 20 0) (x 21 0) (x 22 0)) (fun E => E = xIA ∧ ¬ (1 ≤ v ∧ v ≤ 20000)) (va_A (cmW T q n d (x 0) (x 1) (x 2) (x 3) (x 4) (x 11 0) (x 12 0) (x 13 0) (x 14 0) (x 15 0) (x 16 0) (x 17 0) (x 18 0) (x 19 0) (x 20 0) (x 21 0) (x 22 0)) sz)) 1 6 (va_A (cmW T q n d (x 0) (x 1) (x 2) (x 3) (x 4) (x 11 0) (x 12 0) (x 13 0) (x 14 0) (x 15 0) (x 16 0) (x 17 0) (x 18 0) (x 19 0) (x 20 0) (x 21 0) (x 22 0)) sz) := by
  refine cx_inXI hlt (by decide) rfl rfl (Nat.le_of_ble_eq_true rfl) (by decide) ?_
  intro p e s m below meth cd ls A Q hx hb hml hT hown hret hthr hP hK hD hN hS hA hl
  have hown : s.vm.findClass R_CM = some m.cls := hown
  have hl : lv_has ls 4 [(0, .ref (q 0)), (1, .int (iI (v)))] := hl
  have hC := hX.1
  have hR0 := hX.2.1
  have hF := hX.2.2
  unfold okR at hR0
  refine lv_iload_n hx hb d_CM_run_0 rfl (lv_at hl 1 rfl) ?_
  refine cx_iconst hx hb d_CM_run_1 ?_
  refine cx_icmp_lt (tgt := 12) hx hb d_CM_run_2 rfl (by omega) (by omega) (fun h2 => ?_) (fun h2 => ?_)
  · exact hthr xw_IA (⟨rfl, by omega⟩) hl.1 d_CM_run_12 d_CM_run_15 d_CM_run_16 d_CM_run_19 hP hD hS
  · refine lv_iload_n hx hb d_CM_run_5 rfl (lv_at hl 1 rfl) ?_
    refine cx_sipush hx hb d_CM_run_6 rfl ?_
    refine cx_icmp_le (tgt := 20) hx hb d_CM_run_9 rfl (by omega) (by omega) (fun h9 => ?_) (fun h9 => ?_)
    · refine cx_iconst hx hb d_CM_run_20 ?_
      refine lv_istore_n (lv' := [(2, .int (iI (0))), (0, .ref (q 0)), (1, .int (iI (v)))]) hx hb d_CM_run_21 rfl hl (by decide) rfl (fun ls hl => ?_)
      refine cx_iconst hx hb d_CM_run_22 ?_
      refine lv_istore_n (lv' := [(3, .int (iI (0))), (2, .int (iI (0))), (0, .ref (q 0)), (1, .int (iI (v)))]) hx hb d_CM_run_23 rfl hl (by decide) rfl (fun ls hl => ?_)
      have L1 : ∀ (k_ : Nat) (j : Int) (z : SX) (dd : Int → Int) (H : Heap) (locs : List Loc) (ls : Array Slot), (0 ≤ j ∧ j ≤ v ∧ v - j < k_) → (okX z) → (0 ≤ z 22 0 ∧ z 22 0 ≤ 6) → (rnS n v.toNat (up x 22 (cst 0)) = rnS n (v - j).toNat z) → va_P D vwCl (cmW T q n dd (z 0) (z 1) (z 2) (z 3) (z 4) (z 11 0) (z 12 0) (z 13 0) (z 14 0) (z 15 0) (z 16 0) (z 17 0) (z 18 0) (z 19 0) (z 20 0) (z 21 0) (x 22 0)) H → va_D A (cmW T q n dd (z 0) (z 1) (z 2) (z 3) (z 4) (z 11 0) (z 12 0) (z 13 0) (z 14 0) (z 15 0) (z 16 0) (z 17 0) (z 18 0) (z 19 0) (z 20 0) (z 21 0) (x 22 0)) → va_S A s.heap H locs → lv_has ls 4 [(3, .int (iI (j))), (2, .int (iI (z 22 0))), (0, .ref (q 0)), (1, .int (iI (v)))] → W p l e (rmX 6) s m ([.ref (q 0), .int (iI (v))] : List Value).toArray below meth cd H locs 0 0 Q (F0 m 24 ls []) := by
        intro k_
        induction k_ with
        | zero => intro j z dd H locs ls hj hZ h22 hr _ _ _ _; exact absurd hj (by omega)
        | succ k_ ih1 =>
          intro j z dd H locs ls hj hZ h22 hr hP hD hS hl
          refine lv_iload_n hx hb d_CM_run_24 rfl (lv_at hl 0 rfl) ?_
          refine lv_iload_n hx hb d_CM_run_25 rfl (lv_at hl 3 rfl) ?_
          refine cx_icmp_ge (tgt := 57) hx hb d_CM_run_26 rfl (by omega) (by omega) (fun h26 => ?_) (fun h26 => ?_)
          · refine lv_aload_n hx hb d_CM_run_57 rfl (lv_at hl 2 rfl) ?_
            refine lv_iload_n hx hb d_CM_run_58 rfl (lv_at hl 1 rfl) ?_
            refine va_put (D := D) (ci := 4) (v := .int (iI (z 22 0))) (ty := .int) (C := R_CM) (T := T_CM) (N := 7) hx hb hT lays_CM t_CM t_CM_ok n_CM hown hK hP hD hS 0 rfl rfl 6 (by decide) (hT _ tw_127) (fun _ h9 => h9) rfl (by decide +kernel) rfl rfl (Nat.le_of_ble_eq_true rfl) d_CM_run_59 (fun H locs hP hD hS => ?_)
            have hP : va_P D vwCl (cmW T q n dd (z 0) (z 1) (z 2) (z 3) (z 4) (z 11 0) (z 12 0) (z 13 0) (z 14 0) (z 15 0) (z 16 0) (z 17 0) (z 18 0) (z 19 0) (z 20 0) (z 21 0) (z 22 0)) H := hP
            have hD : va_D A (cmW T q n dd (z 0) (z 1) (z 2) (z 3) (z 4) (z 11 0) (z 12 0) (z 13 0) (z 14 0) (z 15 0) (z 16 0) (z 17 0) (z 18 0) (z 19 0) (z 20 0) (z 21 0) (z 22 0)) := hD
            refine lv_iload_n hx hb d_CM_run_62 rfl (lv_at hl 1 rfl) ?_
            exact hret ((z, dd) : SX × (Int → Int)) (⟨by omega, pst_of (by unfold runS; rw [if_pos (by omega), hr, rnS_e (by omega)]) hZ⟩) hP hD hS d_CM_run_63
          · refine lv_iload_n hx hb d_CM_run_29 rfl (lv_at hl 1 rfl) ?_
            refine cx_if_ne (tgt := 57) hx hb d_CM_run_30 rfl (by omega) (fun h30 => ?_) (fun h30 => ?_)
            · refine lv_aload_n hx hb d_CM_run_57 rfl (lv_at hl 2 rfl) ?_
              refine lv_iload_n hx hb d_CM_run_58 rfl (lv_at hl 1 rfl) ?_
              refine va_put (D := D) (ci := 4) (v := .int (iI (z 22 0))) (ty := .int) (C := R_CM) (T := T_CM) (N := 7) hx hb hT lays_CM t_CM t_CM_ok n_CM hown hK hP hD hS 0 rfl rfl 6 (by decide) (hT _ tw_127) (fun _ h9 => h9) rfl (by decide +kernel) rfl rfl (Nat.le_of_ble_eq_true rfl) d_CM_run_59 (fun H locs hP hD hS => ?_)
              have hP : va_P D vwCl (cmW T q n dd (z 0) (z 1) (z 2) (z 3) (z 4) (z 11 0) (z 12 0) (z 13 0) (z 14 0) (z 15 0) (z 16 0) (z 17 0) (z 18 0) (z 19 0) (z 20 0) (z 21 0) (z 22 0)) H := hP
              have hD : va_D A (cmW T q n dd (z 0) (z 1) (z 2) (z 3) (z 4) (z 11 0) (z 12 0) (z 13 0) (z 14 0) (z 15 0) (z 16 0) (z 17 0) (z 18 0) (z 19 0) (z 20 0) (z 21 0) (z 22 0)) := hD
              refine lv_iload_n hx hb d_CM_run_62 rfl (lv_at hl 1 rfl) ?_
              exact hret ((z, dd) : SX × (Int → Int)) (⟨by omega, pst_of (by unfold runS; rw [if_pos (by omega), hr, rnS_e (by omega)]) hZ⟩) hP hD hS d_CM_run_63
            · refine lv_aload_n hx hb d_CM_run_33 rfl (lv_at hl 2 rfl) ?_
              refine va_get (D := D) (ci := 4) (v := .ref (q 9)) (C := R_CM) (T := T_CM) (N := 7) hx hb hT lays_CM hown hK hP 0 rfl rfl 4 (by decide) (hT _ tw_125) (fun _ h9 => h9) rfl d_CM_run_34 ?_
              refine cx_cI (ws2 := fun (u : SX × (Int → Int)) => cmW T q n u.2 (u.1 0) (u.1 1) (u.1 2) (u.1 3) (u.1 4) (u.1 11 0) (u.1 12 0) (u.1 13 0) (u.1 14 0) (u.1 15 0) (u.1 16 0) (u.1 17 0) (u.1 18 0) (u.1 19 0) (u.1 20 0) (z 21 0) (x 22 0)) (cx_rV (q0 := 1) (ci := 2) (rest := []) (As := []) hx hb hml hown hT hK hN hP hD hl.1 tw_316 k_PR_step (c_PR_step l D T H.size q n hn dd (up z 21 (cst (z 21 0 + 1))) (show okX (up z 21 (cst (z 21 0 + 1))) from ⟨hZ.1, hZ.2.1, hZ.2.2⟩)) ⟨by decide, by decide⟩ ⟨rfl, rfl⟩ [1, 2, 3, 4, 5, 6, 7, 8, 9, 10, 11] (by decide) rfl rfl rfl rfl rfl (Nat.le_of_ble_eq_true rfl) ⟨Nat.zero_le _, Nat.zero_le _⟩ d_CM_run_37) hP hD hS hA [1, 2, 3, 4, 5, 6, 7, 8, 9, 10, 11] [0] [0, 1, 2, 3, 4, 5, 6, 7, 8, 9, 10, 11] rfl (wr := [(q 0, .inr (4, [.ref (q 1), .ref (q 3), .ref (q 5), .ref (q 7), .ref (q 9), .int (iI (z 21 0)), .int (iI (x 22 0))]))]) rfl (by decide) (by decide) (fun _ => rfl) (by decide) (fun r u_ H locs hq37 hP hD hS => ?_)
              obtain ⟨hr9, hu9, hE2⟩ := hq37
              subst hr9
              have e21 : u_.1 21 0 = z 21 0 + 1 := by rw [hu9]; exact congrFun (kpt_stp n (up z 21 (cst (z 21 0 + 1)))).1 0
              refine lv_istore_n (lv' := [(2, .int (iI ((stpS n (up z 21 (cst (z 21 0 + 1)))).1))), (3, .int (iI (j))), (0, .ref (q 0)), (1, .int (iI (v)))]) hx hb d_CM_run_40 rfl hl (by decide) rfl (fun ls hl => ?_)
              refine lv_aload_n hx hb d_CM_run_41 rfl (lv_at hl 2 rfl) ?_
              refine lv_dup hx hb d_CM_run_42 rfl ?_
              refine va_get (D := D) (ci := 4) (v := .int (iI (z 21 0))) (C := R_CM) (T := T_CM) (N := 7) hx hb hT lays_CM hown hK hP 0 rfl rfl 5 (by decide) (hT _ tw_126) (fun _ h9 => h9) rfl d_CM_run_43 ?_
              refine cx_iconst hx hb d_CM_run_46 ?_
              refine cx_iadd hx hb d_CM_run_47 ?_
              refine va_put (D := D) (ci := 4) (v := .int (iI ((z 21 0) + 1))) (ty := .int) (C := R_CM) (T := T_CM) (N := 7) hx hb hT lays_CM t_CM t_CM_ok n_CM hown hK hP hD hS 0 rfl rfl 5 (by decide) (hT _ tw_126) (fun _ h9 => h9) rfl (by decide +kernel) rfl rfl (Nat.le_of_ble_eq_true rfl) d_CM_run_48 (fun H locs hP hD hS => ?_)
              have hP : va_P D vwCl (cmW T q n u_.2 (u_.1 0) (u_.1 1) (u_.1 2) (u_.1 3) (u_.1 4) (u_.1 11 0) (u_.1 12 0) (u_.1 13 0) (u_.1 14 0) (u_.1 15 0) (u_.1 16 0) (u_.1 17 0) (u_.1 18 0) (u_.1 19 0) (u_.1 20 0) ((z 21 0) + 1) (x 22 0)) H := hP
              have hD : va_D A (cmW T q n u_.2 (u_.1 0) (u_.1 1) (u_.1 2) (u_.1 3) (u_.1 4) (u_.1 11 0) (u_.1 12 0) (u_.1 13 0) (u_.1 14 0) (u_.1 15 0) (u_.1 16 0) (u_.1 17 0) (u_.1 18 0) (u_.1 19 0) (u_.1 20 0) ((z 21 0) + 1) (x 22 0)) := hD
              refine cx_iinc (k := 1) (lv' := [(3, .int (iI (j + 1))), (2, .int (iI ((stpS n (up z 21 (cst (z 21 0 + 1)))).1))), (0, .ref (q 0)), (1, .int (iI (v)))]) hx hb d_CM_run_51 hl rfl (by decide) rfl (fun ls hl => ?_)
              refine lv_goto (tgt := 24) hx hb d_CM_run_54 rfl ?_
              rw [← e21] at hP hD
              exact ih1 (j + 1) (up u_.1 22 (cst ((stpS n (up z 21 (cst (z 21 0 + 1)))).1))) u_.2 _ _ _ (by omega) (show okX (up u_.1 22 _) from ⟨hE2.1, hE2.2.1, hE2.2.2⟩) (rng_stp n (up z 21 (cst (z 21 0 + 1)))) (by rw [hr, rnS_s (by omega) h30]; unfold tkS; rw [hu9]) hP hD hS (lv_sub hl [0, 1, 2, 3] rfl)
      exact L1 20001 0 (up x 22 (cst 0)) d _ _ _ (by omega) (show okX (up x 22 (cst 0)) from ⟨hX.1, hX.2.1, hX.2.2⟩) (show (0 : Int) ≤ 0 ∧ (0 : Int) ≤ 6 by decide) (by rw [Int.sub_zero]) hP hD hS (lv_sub hl [0, 1, 2, 3] rfl)
    · exact hthr xw_IA (⟨rfl, by omega⟩) hl.1 d_CM_run_12 d_CM_run_15 d_CM_run_16 d_CM_run_19 hP hD hS
