/-! the reference: digits, reset -/
theorem bt_dzz {d z : Int} (hd : 0 ≤ d ∧ d < 16) (hz : z = 0 ∨ z = 16 ∨ z = 32 ∨ z = 48) : iI d ||| iI z = iI (d + z) := by
  rcases hz with rfl | rfl | rfl | rfl
  · exact bt_dz (z := 0) hd (by omega)
  · exact bt_dz (z := 1) hd (by omega)
  · exact bt_dz (z := 2) hd (by omega)
  · exact bt_dz (z := 3) hd (by omega)
theorem spn_wrt {f t F : Int → Int} {b k z : Int} (h : ∀ i, 0 ≤ i → i < k → t i = F i) : spn f b k (znF (fun i => wrt (F i)) z) = spn f b k (znF (fun i => wrt (t i)) z) := spn_congr (fun i h0 h1 => by
  unfold znF
  dsimp only
  rw [h i h0 h1])
def calV (n fz v : Int) (x : SX) : Int × SX := if fld n (x 1) (x 13 0) (n + 1) 2001 1 = 0 then (2, x) else if fld n (x 1) (x 12 0) (fld n (x 1) (x 13 0) (n + 1) 2001 1) 2001 1 = 0 then (2, x) else (0, calE (calC fz v x (fld n (x 1) (x 13 0) (n + 1) 2001 1) (fld n (x 1) (x 12 0) (fld n (x 1) (x 13 0) (n + 1) 2001 1) 2001 1)) (fld n (x 1) (x 12 0) (fld n (x 1) (x 13 0) (n + 1) 2001 1) 2001 1) (fld n (x 1) (x 13 0) (n + 1) 2001 1))
theorem v70_e {x : SX} {o c v : Int} (h : (v = 1 ∧ ¬ (zn (x 0 (x 12 0)) = 32 ↔ o = c)) ∨ (v = 0 ∧ (zn (x 0 (x 12 0)) = 32 ↔ o = c))) {fz n : Int} : calS n fz (if o = c then 1 else 0) x = calV n fz v x := by
  have e : (if mns (x 0 (x 12 0)) = (if o = c then 1 else 0) then (0 : Int) else 1) = v := by
    unfold mns
    by_cases h1 : zn (x 0 (x 12 0)) = 32
    · by_cases h2 : o = c
      · rw [if_pos h1, if_pos h2, if_pos rfl]; omega
      · rw [if_pos h1, if_neg h2, if_neg (by decide)]; omega
    · by_cases h2 : o = c
      · rw [if_neg h1, if_pos h2, if_neg (by decide)]; omega
      · rw [if_neg h1, if_neg h2, if_pos rfl]; omega
  unfold calS calK calP calV
  rw [e]

set_option maxHeartbeats 4000000 in
set_option maxRecDepth 100000 in
theorem c_MO_readDigitsA (l : Launch) (D : va_G) (T : Nat → ClassId) (sz : Nat) (q : Nat → Nat) (n : Nat) (hn : 400 ≤ n ∧ n ≤ 2000) (x y : SX) (hX : okX x) (u m0 k : Int) (hu : 0 ≤ u ∧ u < n) (hm0 : 1 ≤ m0 ∧ m0 ≤ u + 1) (hk : 0 ≤ k ∧ k ≤ n) : MV l y_MO_readDigits (wY y_MO_readDigits b_MO_readDigits 6 none) (rmK 1) D vwCl (tyL T) nwL sz [.ref (q 20), .ref (q 27), .int (iI (u)), .int (iI (m0)), .int (iI (k))] (moW T q n (x 0) (x 1) (mkF (x 2) (x 18 0)) (cdF (x 2) (x 18 0)) (x 3) (x 4) (x 11 0) (x 12 0) (x 13 0) (x 14 0) (x 15 0) (x 16 0) (x 17 0) (x 18 0) (x 19 0) (x 20 0) (x 21 0) (x 22 0) (y 31 0) (y 32 0) (y 33 0) (y 34 0) (y 35 0) (y 36 0) (y 37) (y 38) (y 39)) (fun (_ : Unit) => True) (fun _ => moX T q n x (up y 37 (spa (y 37) 0 (k) (rdg (x 0) u m0)))) := by
  refine cx_inV (by decide) rfl (Nat.le_of_ble_eq_true rfl) ?_
  intro p e s m below meth cd ls A Q hx hb hml hT hown hret hP hK hD hN hS hA hl
  have hown : s.vm.findClass R_MO = some m.cls := hown
  have hl : lv_has ls 6 [(0, .ref (q 20)), (1, .ref (q 27)), (2, .int (iI (u))), (3, .int (iI (m0))), (4, .int (iI (k)))] := hl
  have hC := hX.1
  have hR0 := hX.2.1
  have hF := hX.2.2
  unfold okR at hR0
  refine cx_iconst hx hb d_MO_readDigits_0 ?_
  refine lv_istore (lv' := [(5, .int (iI (0))), (0, .ref (q 20)), (1, .ref (q 27)), (2, .int (iI (u))), (3, .int (iI (m0))), (4, .int (iI (k)))]) hx hb d_MO_readDigits_1 hl (by decide) rfl (fun ls hl => ?_)
  have L1 : ∀ (k_ : Nat) (j : Int) (H : Heap) (locs : List Loc) (ls : Array Slot), (0 ≤ j ∧ j ≤ k ∧ k - j < k_) → va_P D vwCl (moW T q n (x 0) (x 1) (mkF (x 2) (x 18 0)) (cdF (x 2) (x 18 0)) (x 3) (x 4) (x 11 0) (x 12 0) (x 13 0) (x 14 0) (x 15 0) (x 16 0) (x 17 0) (x 18 0) (x 19 0) (x 20 0) (x 21 0) (x 22 0) (y 31 0) (y 32 0) (y 33 0) (y 34 0) (y 35 0) (y 36 0) (spa (y 37) 0 (j) (rdg (x 0) u m0)) (y 38) (y 39)) H → va_D A (moW T q n (x 0) (x 1) (mkF (x 2) (x 18 0)) (cdF (x 2) (x 18 0)) (x 3) (x 4) (x 11 0) (x 12 0) (x 13 0) (x 14 0) (x 15 0) (x 16 0) (x 17 0) (x 18 0) (x 19 0) (x 20 0) (x 21 0) (x 22 0) (y 31 0) (y 32 0) (y 33 0) (y 34 0) (y 35 0) (y 36 0) (spa (y 37) 0 (j) (rdg (x 0) u m0)) (y 38) (y 39)) → va_S A s.heap H locs → lv_has ls 6 [(5, .int (iI (j))), (0, .ref (q 20)), (1, .ref (q 27)), (2, .int (iI (u))), (3, .int (iI (m0))), (4, .int (iI (k)))] → W p l e (rmK 1) s m ([.ref (q 20), .ref (q 27), .int (iI (u)), .int (iI (m0)), .int (iI (k))] : List Value).toArray below meth cd H locs 0 0 Q (F0 m 3 ls []) := by
    intro k_
    induction k_ with
    | zero => intro j H locs ls hj _ _ _ _; exact absurd hj (by omega)
    | succ k_ ih1 =>
      intro j H locs ls hj hP hD hS hl
      refine lv_iload hx hb d_MO_readDigits_3 (lv_at hl 0 rfl) ?_
      refine lv_iload hx hb d_MO_readDigits_5 (lv_at hl 5 rfl) ?_
      refine cx_icmp_ge (tgt := 52) hx hb d_MO_readDigits_7 rfl (by omega) (by omega) (fun h7 => ?_) (fun h7 => ?_)
      · obtain rfl : j = k := by omega
        exact hret () trivial hP hD hS d_MO_readDigits_52
      · refine lv_aload_n hx hb d_MO_readDigits_10 rfl (lv_at hl 2 rfl) ?_
        refine lv_iload hx hb d_MO_readDigits_11 (lv_at hl 0 rfl) ?_
        refine lv_iload hx hb d_MO_readDigits_13 (lv_at hl 0 rfl) ?_
        refine lv_iload_n hx hb d_MO_readDigits_15 rfl (lv_at hl 4 rfl) ?_
        refine cx_icmp_ge (tgt := 44) hx hb d_MO_readDigits_16 rfl (by omega) (by omega) (fun h16 => ?_) (fun h16 => ?_)
        · refine cx_iconst hx hb d_MO_readDigits_44 ?_
          refine cx_iast (g := iF (spa (y 37) 0 (j) (rdg (x 0) u m0))) (g' := iF (fu (spa (y 37) 0 (j) (rdg (x 0) u m0)) (j) (0))) hx hb hK hP hD hS 7 0 rfl rfl (by omega) (by omega) (fun j => iF_put j) d_MO_readDigits_45 (fun H locs hP hD hS => ?_)
          have hP : va_P D vwCl (moW T q n (x 0) (x 1) (mkF (x 2) (x 18 0)) (cdF (x 2) (x 18 0)) (x 3) (x 4) (x 11 0) (x 12 0) (x 13 0) (x 14 0) (x 15 0) (x 16 0) (x 17 0) (x 18 0) (x 19 0) (x 20 0) (x 21 0) (x 22 0) (y 31 0) (y 32 0) (y 33 0) (y 34 0) (y 35 0) (y 36 0) (fu (spa (y 37) 0 (j) (rdg (x 0) u m0)) (j) (0)) (y 38) (y 39)) H := hP
          have hD : va_D A (moW T q n (x 0) (x 1) (mkF (x 2) (x 18 0)) (cdF (x 2) (x 18 0)) (x 3) (x 4) (x 11 0) (x 12 0) (x 13 0) (x 14 0) (x 15 0) (x 16 0) (x 17 0) (x 18 0) (x 19 0) (x 20 0) (x 21 0) (x 22 0) (y 31 0) (y 32 0) (y 33 0) (y 34 0) (y 35 0) (y 36 0) (fu (spa (y 37) 0 (j) (rdg (x 0) u m0)) (j) (0)) (y 38) (y 39)) := hD
          refine cx_iinc (k := 0) (lv' := [(5, .int (iI (j + 1))), (0, .ref (q 20)), (1, .ref (q 27)), (2, .int (iI (u))), (3, .int (iI (m0))), (4, .int (iI (k)))]) hx hb d_MO_readDigits_46 hl rfl (by decide) rfl (fun ls hl => ?_)
          refine lv_goto (tgt := 3) hx hb d_MO_readDigits_49 rfl ?_
          rw [spa_step (F := rdg (x 0) u m0) (k2 := j + 1) (by omega) (by omega) rfl (by unfold rdg; rw [if_neg (by omega)])] at hP hD
          exact ih1 (j + 1) _ _ _ (by omega) hP hD hS (lv_sub hl [0, 1, 2, 3, 4, 5] rfl)
        · refine lv_aload_n hx hb d_MO_readDigits_19 rfl (lv_at hl 1 rfl) ?_
          refine va_get (D := D) (ci := 5) (v := .ref (q 21)) (C := R_MO) (T := T_MO) (N := 28) hx hb hT lays_MO hown hK hP 0 rfl rfl 2 (by decide) (hT _ tw_638) (fun _ h9 => h9) rfl d_MO_readDigits_20 ?_
          refine lv_iload hx hb d_MO_readDigits_23 (lv_at hl 0 rfl) ?_
          refine lv_iload_n hx hb d_MO_readDigits_25 rfl (lv_at hl 4 rfl) ?_
          refine cx_icmp_ge (tgt := 36) hx hb d_MO_readDigits_26 rfl (by omega) (by omega) (fun h26 => absurd h26 (by omega)) (fun h26 => ?_)
          refine lv_iload_n hx hb d_MO_readDigits_29 rfl (lv_at hl 3 rfl) ?_
          refine lv_iload hx hb d_MO_readDigits_30 (lv_at hl 0 rfl) ?_
          refine cx_isub hx hb d_MO_readDigits_32 ?_
          refine lv_goto (tgt := 37) hx hb d_MO_readDigits_33 rfl ?_
          refine cx_bald (g := iF (x 0)) hx hb hK hP 1 1 rfl rfl (by omega) (by omega) d_MO_readDigits_37 ?_
          have hc37 := hC.1 (u - j)
          have hv9 := vl_in hc37
          refine cx_cI (ws2 := fun _ => moW T q n (x 0) (x 1) (mkF (x 2) (x 18 0)) (cdF (x 2) (x 18 0)) (x 3) (x 4) (x 11 0) (x 12 0) (x 13 0) (x 14 0) (x 15 0) (x 16 0) (x 17 0) (x 18 0) (x 19 0) (x 20 0) (x 21 0) (x 22 0) (y 31 0) (y 32 0) (y 33 0) (y 34 0) (y 35 0) (y 36 0) (spa (y 37) 0 (j) (rdg (x 0) u m0)) (y 38) (y 39)) (cx_rS (rest := [.int (iI (j)), .ref (q 27)]) (As := [.int (iI ((x 0) (u - j)))]) hx hb hml hown hT hK hN hP hD hl.1 tw_775 k_MO_value (c_MO_value l D T H.size ((x 0) (u - j)) (by omega)) ⟨by decide, by decide⟩ ⟨rfl, rfl⟩ [] (by decide) rfl rfl rfl (Nat.le_of_ble_eq_true rfl) ⟨Nat.zero_le _, Nat.zero_le _⟩ d_MO_readDigits_38) hP hD hS hA [] [0, 1, 2, 3, 4, 5, 6, 7, 8, 9] [0, 1, 2, 3, 4, 5, 6, 7, 8, 9] rfl (wr := [(q 20, .inr (5, [.int (iI (y 31 0)), .int (iI ((n : Int))), .ref (q 21), .ref (q 22), .int (iI (x 11 0)), .int (iI (x 12 0)), .int (iI (x 13 0)), .int (iI (x 14 0)), .int (iI (x 15 0)), .int (iI (x 16 0)), .int (iI (x 21 0)), .int (iI (x 22 0)), .int (iI (y 32 0)), .int (iI (y 33 0)), .int (iI (y 34 0)), .int (iI (y 35 0)), .int (iI (y 36 0)), .ref (q 23), .int (iI (x 18 0)), .int (iI (x 17 0)), .ref (q 24), .int (iI (x 19 0)), .ref (q 25), .int (iI (x 20 0)), .ref (q 26), .ref (q 27), .ref (q 28), .ref (q 29)])), (q 21, .inl (T 1, 2000, .inl (fun jj : Nat => (iF (x 0)) (jj : Int)))), (q 22, .inl (T 2, 2000, .inl (fun jj : Nat => (iF (x 1)) (jj : Int)))), (q 23, .inl (T 1, 80, .inl (fun jj : Nat => (iF (mkF (x 2) (x 18 0))) (jj : Int)))), (q 24, .inl (T 1, 1600, .inl (fun jj : Nat => (iF (cdF (x 2) (x 18 0))) (jj : Int)))), (q 25, .inl (T 1, 5280, .inl (fun jj : Nat => (iF (x 3)) (jj : Int)))), (q 26, .inl (T 1, 1600, .inl (fun jj : Nat => (iF (x 4)) (jj : Int)))), (q 27, .inl (T 0, 2000, .inl (fun jj : Nat => (iF (spa (y 37) 0 (j) (rdg (x 0) u m0))) (jj : Int)))), (q 28, .inl (T 0, 2000, .inl (fun jj : Nat => (iF (y 38)) (jj : Int)))), (q 29, .inl (T 1, 2000, .inl (fun jj : Nat => (iF (y 39)) (jj : Int))))]) rfl (by decide) (by decide) (fun _ => rfl) (by decide) (fun r u_ H locs hq38 hP hD hS => ?_)
          subst hq38
          refine lv_goto (tgt := 45) hx hb d_MO_readDigits_41 rfl ?_
          refine cx_iast (g := iF (spa (y 37) 0 (j) (rdg (x 0) u m0))) (g' := iF (fu (spa (y 37) 0 (j) (rdg (x 0) u m0)) (j) (vl ((x 0) (u - j))))) hx hb hK hP hD hS 7 0 rfl rfl (by omega) (by omega) (fun j => iF_put j) d_MO_readDigits_45 (fun H locs hP hD hS => ?_)
          have hP : va_P D vwCl (moW T q n (x 0) (x 1) (mkF (x 2) (x 18 0)) (cdF (x 2) (x 18 0)) (x 3) (x 4) (x 11 0) (x 12 0) (x 13 0) (x 14 0) (x 15 0) (x 16 0) (x 17 0) (x 18 0) (x 19 0) (x 20 0) (x 21 0) (x 22 0) (y 31 0) (y 32 0) (y 33 0) (y 34 0) (y 35 0) (y 36 0) (fu (spa (y 37) 0 (j) (rdg (x 0) u m0)) (j) (vl ((x 0) (u - j)))) (y 38) (y 39)) H := hP
          have hD : va_D A (moW T q n (x 0) (x 1) (mkF (x 2) (x 18 0)) (cdF (x 2) (x 18 0)) (x 3) (x 4) (x 11 0) (x 12 0) (x 13 0) (x 14 0) (x 15 0) (x 16 0) (x 17 0) (x 18 0) (x 19 0) (x 20 0) (x 21 0) (x 22 0) (y 31 0) (y 32 0) (y 33 0) (y 34 0) (y 35 0) (y 36 0) (fu (spa (y 37) 0 (j) (rdg (x 0) u m0)) (j) (vl ((x 0) (u - j)))) (y 38) (y 39)) := hD
          refine cx_iinc (k := 0) (lv' := [(5, .int (iI (j + 1))), (0, .ref (q 20)), (1, .ref (q 27)), (2, .int (iI (u))), (3, .int (iI (m0))), (4, .int (iI (k)))]) hx hb d_MO_readDigits_46 hl rfl (by decide) rfl (fun ls hl => ?_)
          refine lv_goto (tgt := 3) hx hb d_MO_readDigits_49 rfl ?_
          rw [spa_step (F := rdg (x 0) u m0) (k2 := j + 1) (by omega) (by omega) rfl (by unfold rdg; rw [if_pos (by omega)])] at hP hD
          exact ih1 (j + 1) _ _ _ (by omega) hP hD hS (lv_sub hl [0, 1, 2, 3, 4, 5] rfl)
  rw [← spa_0 (y 37) 0 (rdg (x 0) u m0)] at hP hD
  exact L1 2001 0 _ _ _ (by omega) hP hD hS (lv_sub hl [0, 1, 2, 3, 4, 5] rfl)

set_option maxHeartbeats 4000000 in
set_option maxRecDepth 100000 in
theorem c_MO_readDigitsB (l : Launch) (D : va_G) (T : Nat → ClassId) (sz : Nat) (q : Nat → Nat) (n : Nat) (hn : 400 ≤ n ∧ n ≤ 2000) (x y : SX) (hX : okX x) (u m0 k : Int) (hu : 0 ≤ u ∧ u < n) (hm0 : 1 ≤ m0 ∧ m0 ≤ u + 1) (hk : 0 ≤ k ∧ k ≤ n) : MV l y_MO_readDigits (wY y_MO_readDigits b_MO_readDigits 6 none) (rmK 1) D vwCl (tyL T) nwL sz [.ref (q 20), .ref (q 28), .int (iI (u)), .int (iI (m0)), .int (iI (k))] (moW T q n (x 0) (x 1) (mkF (x 2) (x 18 0)) (cdF (x 2) (x 18 0)) (x 3) (x 4) (x 11 0) (x 12 0) (x 13 0) (x 14 0) (x 15 0) (x 16 0) (x 17 0) (x 18 0) (x 19 0) (x 20 0) (x 21 0) (x 22 0) (y 31 0) (y 32 0) (y 33 0) (y 34 0) (y 35 0) (y 36 0) (y 37) (y 38) (y 39)) (fun (_ : Unit) => True) (fun _ => moX T q n x (up y 38 (spa (y 38) 0 (k) (rdg (x 0) u m0)))) := by
  refine cx_inV (by decide) rfl (Nat.le_of_ble_eq_true rfl) ?_
  intro p e s m below meth cd ls A Q hx hb hml hT hown hret hP hK hD hN hS hA hl
  have hown : s.vm.findClass R_MO = some m.cls := hown
  have hl : lv_has ls 6 [(0, .ref (q 20)), (1, .ref (q 28)), (2, .int (iI (u))), (3, .int (iI (m0))), (4, .int (iI (k)))] := hl
  have hC := hX.1
  have hR0 := hX.2.1
  have hF := hX.2.2
  unfold okR at hR0
  refine cx_iconst hx hb d_MO_readDigits_0 ?_
  refine lv_istore (lv' := [(5, .int (iI (0))), (0, .ref (q 20)), (1, .ref (q 28)), (2, .int (iI (u))), (3, .int (iI (m0))), (4, .int (iI (k)))]) hx hb d_MO_readDigits_1 hl (by decide) rfl (fun ls hl => ?_)
  have L1 : ∀ (k_ : Nat) (j : Int) (H : Heap) (locs : List Loc) (ls : Array Slot), (0 ≤ j ∧ j ≤ k ∧ k - j < k_) → va_P D vwCl (moW T q n (x 0) (x 1) (mkF (x 2) (x 18 0)) (cdF (x 2) (x 18 0)) (x 3) (x 4) (x 11 0) (x 12 0) (x 13 0) (x 14 0) (x 15 0) (x 16 0) (x 17 0) (x 18 0) (x 19 0) (x 20 0) (x 21 0) (x 22 0) (y 31 0) (y 32 0) (y 33 0) (y 34 0) (y 35 0) (y 36 0) (y 37) (spa (y 38) 0 (j) (rdg (x 0) u m0)) (y 39)) H → va_D A (moW T q n (x 0) (x 1) (mkF (x 2) (x 18 0)) (cdF (x 2) (x 18 0)) (x 3) (x 4) (x 11 0) (x 12 0) (x 13 0) (x 14 0) (x 15 0) (x 16 0) (x 17 0) (x 18 0) (x 19 0) (x 20 0) (x 21 0) (x 22 0) (y 31 0) (y 32 0) (y 33 0) (y 34 0) (y 35 0) (y 36 0) (y 37) (spa (y 38) 0 (j) (rdg (x 0) u m0)) (y 39)) → va_S A s.heap H locs → lv_has ls 6 [(5, .int (iI (j))), (0, .ref (q 20)), (1, .ref (q 28)), (2, .int (iI (u))), (3, .int (iI (m0))), (4, .int (iI (k)))] → W p l e (rmK 1) s m ([.ref (q 20), .ref (q 28), .int (iI (u)), .int (iI (m0)), .int (iI (k))] : List Value).toArray below meth cd H locs 0 0 Q (F0 m 3 ls []) := by
    intro k_
    induction k_ with
    | zero => intro j H locs ls hj _ _ _ _; exact absurd hj (by omega)
    | succ k_ ih1 =>
      intro j H locs ls hj hP hD hS hl
      refine lv_iload hx hb d_MO_readDigits_3 (lv_at hl 0 rfl) ?_
      refine lv_iload hx hb d_MO_readDigits_5 (lv_at hl 5 rfl) ?_
      refine cx_icmp_ge (tgt := 52) hx hb d_MO_readDigits_7 rfl (by omega) (by omega) (fun h7 => ?_) (fun h7 => ?_)
      · obtain rfl : j = k := by omega
        exact hret () trivial hP hD hS d_MO_readDigits_52
      · refine lv_aload_n hx hb d_MO_readDigits_10 rfl (lv_at hl 2 rfl) ?_
        refine lv_iload hx hb d_MO_readDigits_11 (lv_at hl 0 rfl) ?_
        refine lv_iload hx hb d_MO_readDigits_13 (lv_at hl 0 rfl) ?_
        refine lv_iload_n hx hb d_MO_readDigits_15 rfl (lv_at hl 4 rfl) ?_
        refine cx_icmp_ge (tgt := 44) hx hb d_MO_readDigits_16 rfl (by omega) (by omega) (fun h16 => ?_) (fun h16 => ?_)
        · refine cx_iconst hx hb d_MO_readDigits_44 ?_
          refine cx_iast (g := iF (spa (y 38) 0 (j) (rdg (x 0) u m0))) (g' := iF (fu (spa (y 38) 0 (j) (rdg (x 0) u m0)) (j) (0))) hx hb hK hP hD hS 8 0 rfl rfl (by omega) (by omega) (fun j => iF_put j) d_MO_readDigits_45 (fun H locs hP hD hS => ?_)
          have hP : va_P D vwCl (moW T q n (x 0) (x 1) (mkF (x 2) (x 18 0)) (cdF (x 2) (x 18 0)) (x 3) (x 4) (x 11 0) (x 12 0) (x 13 0) (x 14 0) (x 15 0) (x 16 0) (x 17 0) (x 18 0) (x 19 0) (x 20 0) (x 21 0) (x 22 0) (y 31 0) (y 32 0) (y 33 0) (y 34 0) (y 35 0) (y 36 0) (y 37) (fu (spa (y 38) 0 (j) (rdg (x 0) u m0)) (j) (0)) (y 39)) H := hP
          have hD : va_D A (moW T q n (x 0) (x 1) (mkF (x 2) (x 18 0)) (cdF (x 2) (x 18 0)) (x 3) (x 4) (x 11 0) (x 12 0) (x 13 0) (x 14 0) (x 15 0) (x 16 0) (x 17 0) (x 18 0) (x 19 0) (x 20 0) (x 21 0) (x 22 0) (y 31 0) (y 32 0) (y 33 0) (y 34 0) (y 35 0) (y 36 0) (y 37) (fu (spa (y 38) 0 (j) (rdg (x 0) u m0)) (j) (0)) (y 39)) := hD
          refine cx_iinc (k := 0) (lv' := [(5, .int (iI (j + 1))), (0, .ref (q 20)), (1, .ref (q 28)), (2, .int (iI (u))), (3, .int (iI (m0))), (4, .int (iI (k)))]) hx hb d_MO_readDigits_46 hl rfl (by decide) rfl (fun ls hl => ?_)
          refine lv_goto (tgt := 3) hx hb d_MO_readDigits_49 rfl ?_
          rw [spa_step (F := rdg (x 0) u m0) (k2 := j + 1) (by omega) (by omega) rfl (by unfold rdg; rw [if_neg (by omega)])] at hP hD
          exact ih1 (j + 1) _ _ _ (by omega) hP hD hS (lv_sub hl [0, 1, 2, 3, 4, 5] rfl)
        · refine lv_aload_n hx hb d_MO_readDigits_19 rfl (lv_at hl 1 rfl) ?_
          refine va_get (D := D) (ci := 5) (v := .ref (q 21)) (C := R_MO) (T := T_MO) (N := 28) hx hb hT lays_MO hown hK hP 0 rfl rfl 2 (by decide) (hT _ tw_638) (fun _ h9 => h9) rfl d_MO_readDigits_20 ?_
          refine lv_iload hx hb d_MO_readDigits_23 (lv_at hl 0 rfl) ?_
          refine lv_iload_n hx hb d_MO_readDigits_25 rfl (lv_at hl 4 rfl) ?_
          refine cx_icmp_ge (tgt := 36) hx hb d_MO_readDigits_26 rfl (by omega) (by omega) (fun h26 => absurd h26 (by omega)) (fun h26 => ?_)
          refine lv_iload_n hx hb d_MO_readDigits_29 rfl (lv_at hl 3 rfl) ?_
          refine lv_iload hx hb d_MO_readDigits_30 (lv_at hl 0 rfl) ?_
          refine cx_isub hx hb d_MO_readDigits_32 ?_
          refine lv_goto (tgt := 37) hx hb d_MO_readDigits_33 rfl ?_
          refine cx_bald (g := iF (x 0)) hx hb hK hP 1 1 rfl rfl (by omega) (by omega) d_MO_readDigits_37 ?_
          have hc37 := hC.1 (u - j)
          have hv9 := vl_in hc37
          refine cx_cI (ws2 := fun _ => moW T q n (x 0) (x 1) (mkF (x 2) (x 18 0)) (cdF (x 2) (x 18 0)) (x 3) (x 4) (x 11 0) (x 12 0) (x 13 0) (x 14 0) (x 15 0) (x 16 0) (x 17 0) (x 18 0) (x 19 0) (x 20 0) (x 21 0) (x 22 0) (y 31 0) (y 32 0) (y 33 0) (y 34 0) (y 35 0) (y 36 0) (y 37) (spa (y 38) 0 (j) (rdg (x 0) u m0)) (y 39)) (cx_rS (rest := [.int (iI (j)), .ref (q 28)]) (As := [.int (iI ((x 0) (u - j)))]) hx hb hml hown hT hK hN hP hD hl.1 tw_775 k_MO_value (c_MO_value l D T H.size ((x 0) (u - j)) (by omega)) ⟨by decide, by decide⟩ ⟨rfl, rfl⟩ [] (by decide) rfl rfl rfl (Nat.le_of_ble_eq_true rfl) ⟨Nat.zero_le _, Nat.zero_le _⟩ d_MO_readDigits_38) hP hD hS hA [] [0, 1, 2, 3, 4, 5, 6, 7, 8, 9] [0, 1, 2, 3, 4, 5, 6, 7, 8, 9] rfl (wr := [(q 20, .inr (5, [.int (iI (y 31 0)), .int (iI ((n : Int))), .ref (q 21), .ref (q 22), .int (iI (x 11 0)), .int (iI (x 12 0)), .int (iI (x 13 0)), .int (iI (x 14 0)), .int (iI (x 15 0)), .int (iI (x 16 0)), .int (iI (x 21 0)), .int (iI (x 22 0)), .int (iI (y 32 0)), .int (iI (y 33 0)), .int (iI (y 34 0)), .int (iI (y 35 0)), .int (iI (y 36 0)), .ref (q 23), .int (iI (x 18 0)), .int (iI (x 17 0)), .ref (q 24), .int (iI (x 19 0)), .ref (q 25), .int (iI (x 20 0)), .ref (q 26), .ref (q 27), .ref (q 28), .ref (q 29)])), (q 21, .inl (T 1, 2000, .inl (fun jj : Nat => (iF (x 0)) (jj : Int)))), (q 22, .inl (T 2, 2000, .inl (fun jj : Nat => (iF (x 1)) (jj : Int)))), (q 23, .inl (T 1, 80, .inl (fun jj : Nat => (iF (mkF (x 2) (x 18 0))) (jj : Int)))), (q 24, .inl (T 1, 1600, .inl (fun jj : Nat => (iF (cdF (x 2) (x 18 0))) (jj : Int)))), (q 25, .inl (T 1, 5280, .inl (fun jj : Nat => (iF (x 3)) (jj : Int)))), (q 26, .inl (T 1, 1600, .inl (fun jj : Nat => (iF (x 4)) (jj : Int)))), (q 27, .inl (T 0, 2000, .inl (fun jj : Nat => (iF (y 37)) (jj : Int)))), (q 28, .inl (T 0, 2000, .inl (fun jj : Nat => (iF (spa (y 38) 0 (j) (rdg (x 0) u m0))) (jj : Int)))), (q 29, .inl (T 1, 2000, .inl (fun jj : Nat => (iF (y 39)) (jj : Int))))]) rfl (by decide) (by decide) (fun _ => rfl) (by decide) (fun r u_ H locs hq38 hP hD hS => ?_)
          subst hq38
          refine lv_goto (tgt := 45) hx hb d_MO_readDigits_41 rfl ?_
          refine cx_iast (g := iF (spa (y 38) 0 (j) (rdg (x 0) u m0))) (g' := iF (fu (spa (y 38) 0 (j) (rdg (x 0) u m0)) (j) (vl ((x 0) (u - j))))) hx hb hK hP hD hS 8 0 rfl rfl (by omega) (by omega) (fun j => iF_put j) d_MO_readDigits_45 (fun H locs hP hD hS => ?_)
          have hP : va_P D vwCl (moW T q n (x 0) (x 1) (mkF (x 2) (x 18 0)) (cdF (x 2) (x 18 0)) (x 3) (x 4) (x 11 0) (x 12 0) (x 13 0) (x 14 0) (x 15 0) (x 16 0) (x 17 0) (x 18 0) (x 19 0) (x 20 0) (x 21 0) (x 22 0) (y 31 0) (y 32 0) (y 33 0) (y 34 0) (y 35 0) (y 36 0) (y 37) (fu (spa (y 38) 0 (j) (rdg (x 0) u m0)) (j) (vl ((x 0) (u - j)))) (y 39)) H := hP
          have hD : va_D A (moW T q n (x 0) (x 1) (mkF (x 2) (x 18 0)) (cdF (x 2) (x 18 0)) (x 3) (x 4) (x 11 0) (x 12 0) (x 13 0) (x 14 0) (x 15 0) (x 16 0) (x 17 0) (x 18 0) (x 19 0) (x 20 0) (x 21 0) (x 22 0) (y 31 0) (y 32 0) (y 33 0) (y 34 0) (y 35 0) (y 36 0) (y 37) (fu (spa (y 38) 0 (j) (rdg (x 0) u m0)) (j) (vl ((x 0) (u - j)))) (y 39)) := hD
          refine cx_iinc (k := 0) (lv' := [(5, .int (iI (j + 1))), (0, .ref (q 20)), (1, .ref (q 28)), (2, .int (iI (u))), (3, .int (iI (m0))), (4, .int (iI (k)))]) hx hb d_MO_readDigits_46 hl rfl (by decide) rfl (fun ls hl => ?_)
          refine lv_goto (tgt := 3) hx hb d_MO_readDigits_49 rfl ?_
          rw [spa_step (F := rdg (x 0) u m0) (k2 := j + 1) (by omega) (by omega) rfl (by unfold rdg; rw [if_pos (by omega)])] at hP hD
          exact ih1 (j + 1) _ _ _ (by omega) hP hD hS (lv_sub hl [0, 1, 2, 3, 4, 5] rfl)
  rw [← spa_0 (y 38) 0 (rdg (x 0) u m0)] at hP hD
  exact L1 2001 0 _ _ _ (by omega) hP hD hS (lv_sub hl [0, 1, 2, 3, 4, 5] rfl)

set_option maxHeartbeats 4000000 in
set_option maxRecDepth 100000 in
theorem c_MO_writeDigits (l : Launch) (D : va_G) (T : Nat → ClassId) (sz : Nat) (q : Nat → Nat) (n : Nat) (hn : 400 ≤ n ∧ n ≤ 2000) (x y : SX) (hX : okX x) (k z : Int) (hk : 1 ≤ k ∧ k ≤ x 13 0 + 1 ∧ (0 ≤ x 13 0 ∧ x 13 0 < n)) (hz : z = 0 ∨ z = 16 ∨ z = 32 ∨ z = 48) (hd : ∀ i, 0 ≤ i → i < k → 0 ≤ y 38 i ∧ y 38 i < 10) : MV l y_MO_writeDigits (wY y_MO_writeDigits b_MO_writeDigits 4 none) (rmK 1) D vwCl (tyL T) nwL sz [.ref (q 20), .int (iI (k)), .int (iI (z))] (moW T q n (x 0) (x 1) (mkF (x 2) (x 18 0)) (cdF (x 2) (x 18 0)) (x 3) (x 4) (x 11 0) (x 12 0) (x 13 0) (x 14 0) (x 15 0) (x 16 0) (x 17 0) (x 18 0) (x 19 0) (x 20 0) (x 21 0) (x 22 0) (y 31 0) (y 32 0) (y 33 0) (y 34 0) (y 35 0) (y 36 0) (y 37) (y 38) (y 39)) (fun (_ : Unit) => True) (fun _ => moX T q n (up x 0 (spn (x 0) (x 13 0) (k) (znF (fun i => wrt (y 38 i)) z))) y) := by
  refine cx_inV (by decide) rfl (Nat.le_of_ble_eq_true rfl) ?_
  intro p e s m below meth cd ls A Q hx hb hml hT hown hret hP hK hD hN hS hA hl
  have hown : s.vm.findClass R_MO = some m.cls := hown
  have hl : lv_has ls 4 [(0, .ref (q 20)), (1, .int (iI (k))), (2, .int (iI (z)))] := hl
  have hC := hX.1
  have hR0 := hX.2.1
  have hF := hX.2.2
  unfold okR at hR0
  refine cx_iconst hx hb d_MO_writeDigits_0 ?_
  refine lv_istore_n (lv' := [(3, .int (iI (0))), (0, .ref (q 20)), (1, .int (iI (k))), (2, .int (iI (z)))]) hx hb d_MO_writeDigits_1 rfl hl (by decide) rfl (fun ls hl => ?_)
  have L1 : ∀ (k_ : Nat) (j : Int) (H : Heap) (locs : List Loc) (ls : Array Slot), (0 ≤ j ∧ j ≤ k ∧ k - j < k_) → (okC (spn (x 0) (x 13 0) (j) (znF (fun i => wrt (y 38 i)) z)) (x 1)) → va_P D vwCl (moW T q n (spn (x 0) (x 13 0) (j) (znF (fun i => wrt (y 38 i)) z)) (x 1) (mkF (x 2) (x 18 0)) (cdF (x 2) (x 18 0)) (x 3) (x 4) (x 11 0) (x 12 0) (x 13 0) (x 14 0) (x 15 0) (x 16 0) (x 17 0) (x 18 0) (x 19 0) (x 20 0) (x 21 0) (x 22 0) (y 31 0) (y 32 0) (y 33 0) (y 34 0) (y 35 0) (y 36 0) (y 37) (y 38) (y 39)) H → va_D A (moW T q n (spn (x 0) (x 13 0) (j) (znF (fun i => wrt (y 38 i)) z)) (x 1) (mkF (x 2) (x 18 0)) (cdF (x 2) (x 18 0)) (x 3) (x 4) (x 11 0) (x 12 0) (x 13 0) (x 14 0) (x 15 0) (x 16 0) (x 17 0) (x 18 0) (x 19 0) (x 20 0) (x 21 0) (x 22 0) (y 31 0) (y 32 0) (y 33 0) (y 34 0) (y 35 0) (y 36 0) (y 37) (y 38) (y 39)) → va_S A s.heap H locs → lv_has ls 4 [(3, .int (iI (j))), (0, .ref (q 20)), (1, .int (iI (k))), (2, .int (iI (z)))] → W p l e (rmK 1) s m ([.ref (q 20), .int (iI (k)), .int (iI (z))] : List Value).toArray below meth cd H locs 0 0 Q (F0 m 2 ls []) := by
    intro k_
    induction k_ with
    | zero => intro j H locs ls hj hC _ _ _ _; exact absurd hj (by omega)
    | succ k_ ih1 =>
      intro j H locs ls hj hC hP hD hS hl
      refine lv_iload_n hx hb d_MO_writeDigits_2 rfl (lv_at hl 0 rfl) ?_
      refine lv_iload_n hx hb d_MO_writeDigits_3 rfl (lv_at hl 2 rfl) ?_
      refine cx_icmp_ge (tgt := 44) hx hb d_MO_writeDigits_4 rfl (by omega) (by omega) (fun h4 => ?_) (fun h4 => ?_)
      · obtain rfl : j = k := by omega
        exact hret () trivial hP hD hS d_MO_writeDigits_44
      · have hd9 := hd j (by omega) (by omega)
        have hw9 := wrt_in hd9
        refine lv_aload_n hx hb d_MO_writeDigits_7 rfl (lv_at hl 1 rfl) ?_
        refine va_get (D := D) (ci := 5) (v := .ref (q 21)) (C := R_MO) (T := T_MO) (N := 28) hx hb hT lays_MO hown hK hP 0 rfl rfl 2 (by decide) (hT _ tw_638) (fun _ h9 => h9) rfl d_MO_writeDigits_8 ?_
        refine lv_aload_n hx hb d_MO_writeDigits_11 rfl (lv_at hl 1 rfl) ?_
        refine va_get (D := D) (ci := 5) (v := .int (iI (x 13 0))) (C := R_MO) (T := T_MO) (N := 28) hx hb hT lays_MO hown hK hP 0 rfl rfl 6 (by decide) (hT _ tw_642) (fun _ h9 => h9) rfl d_MO_writeDigits_12 ?_
        refine lv_iload_n hx hb d_MO_writeDigits_15 rfl (lv_at hl 0 rfl) ?_
        refine cx_isub hx hb d_MO_writeDigits_16 ?_
        refine lv_aload_n hx hb d_MO_writeDigits_17 rfl (lv_at hl 1 rfl) ?_
        refine va_get (D := D) (ci := 5) (v := .ref (q 28)) (C := R_MO) (T := T_MO) (N := 28) hx hb hT lays_MO hown hK hP 0 rfl rfl 26 (by decide) (hT _ tw_662) (fun _ h9 => h9) rfl d_MO_writeDigits_18 ?_
        refine lv_iload_n hx hb d_MO_writeDigits_21 rfl (lv_at hl 0 rfl) ?_
        refine cx_iald (g := iF (y 38)) hx hb hK hP 8 0 rfl rfl (by omega) (by omega) d_MO_writeDigits_22 ?_
        refine cx_cI (ws2 := fun _ => moW T q n (spn (x 0) (x 13 0) (j) (znF (fun i => wrt (y 38 i)) z)) (x 1) (mkF (x 2) (x 18 0)) (cdF (x 2) (x 18 0)) (x 3) (x 4) (x 11 0) (x 12 0) (x 13 0) (x 14 0) (x 15 0) (x 16 0) (x 17 0) (x 18 0) (x 19 0) (x 20 0) (x 21 0) (x 22 0) (y 31 0) (y 32 0) (y 33 0) (y 34 0) (y 35 0) (y 36 0) (y 37) (y 38) (y 39)) (cx_rS (rest := [.int (iI ((x 13 0) - j)), .ref (q 21)]) (As := [.int (iI ((y 38) (j)))]) hx hb hml hown hT hK hN hP hD hl.1 tw_804 k_MO_digit (c_MO_digit l D T H.size ((y 38) (j)) (by omega)) ⟨by decide, by decide⟩ ⟨rfl, rfl⟩ [] (by decide) rfl rfl rfl (Nat.le_of_ble_eq_true rfl) ⟨Nat.zero_le _, Nat.zero_le _⟩ d_MO_writeDigits_23) hP hD hS hA [] [0, 1, 2, 3, 4, 5, 6, 7, 8, 9] [0, 1, 2, 3, 4, 5, 6, 7, 8, 9] rfl (wr := [(q 20, .inr (5, [.int (iI (y 31 0)), .int (iI ((n : Int))), .ref (q 21), .ref (q 22), .int (iI (x 11 0)), .int (iI (x 12 0)), .int (iI (x 13 0)), .int (iI (x 14 0)), .int (iI (x 15 0)), .int (iI (x 16 0)), .int (iI (x 21 0)), .int (iI (x 22 0)), .int (iI (y 32 0)), .int (iI (y 33 0)), .int (iI (y 34 0)), .int (iI (y 35 0)), .int (iI (y 36 0)), .ref (q 23), .int (iI (x 18 0)), .int (iI (x 17 0)), .ref (q 24), .int (iI (x 19 0)), .ref (q 25), .int (iI (x 20 0)), .ref (q 26), .ref (q 27), .ref (q 28), .ref (q 29)])), (q 21, .inl (T 1, 2000, .inl (fun jj : Nat => (iF (spn (x 0) (x 13 0) (j) (znF (fun i => wrt (y 38 i)) z))) (jj : Int)))), (q 22, .inl (T 2, 2000, .inl (fun jj : Nat => (iF (x 1)) (jj : Int)))), (q 23, .inl (T 1, 80, .inl (fun jj : Nat => (iF (mkF (x 2) (x 18 0))) (jj : Int)))), (q 24, .inl (T 1, 1600, .inl (fun jj : Nat => (iF (cdF (x 2) (x 18 0))) (jj : Int)))), (q 25, .inl (T 1, 5280, .inl (fun jj : Nat => (iF (x 3)) (jj : Int)))), (q 26, .inl (T 1, 1600, .inl (fun jj : Nat => (iF (x 4)) (jj : Int)))), (q 27, .inl (T 0, 2000, .inl (fun jj : Nat => (iF (y 37)) (jj : Int)))), (q 28, .inl (T 0, 2000, .inl (fun jj : Nat => (iF (y 38)) (jj : Int)))), (q 29, .inl (T 1, 2000, .inl (fun jj : Nat => (iF (y 39)) (jj : Int))))]) rfl (by decide) (by decide) (fun _ => rfl) (by decide) (fun r u_ H locs hq23 hP hD hS => ?_)
        subst hq23
        refine lv_iload_n hx hb d_MO_writeDigits_26 rfl (lv_at hl 0 rfl) ?_
        refine cx_if_ne (tgt := 34) hx hb d_MO_writeDigits_27 rfl (by omega) (fun h27 => ?_) (fun h27 => ?_)
        · refine cx_iconst hx hb d_MO_writeDigits_34 ?_
          refine lv_ior hx hb d_MO_writeDigits_35 ?_
          refine cx_eq (bt_dzz (by omega) (Or.inl rfl)) ?_
          refine lv_i2b (v := iI (wrt (y 38 (j)) + 0)) hx hb d_MO_writeDigits_36 (i2b_ok (by omega)) ?_
          refine cx_bast (g := iF (spn (x 0) (x 13 0) (j) (znF (fun i => wrt (y 38 i)) z))) (g' := iF (fu (spn (x 0) (x 13 0) (j) (znF (fun i => wrt (y 38 i)) z)) ((x 13 0) - j) (wrt (y 38 (j)) + 0))) hx hb hK hP hD hS 1 1 rfl rfl (by omega) (by omega) (by omega) (fun j => iF_put j) d_MO_writeDigits_37 (fun H locs hP hD hS => ?_)
          have hP : va_P D vwCl (moW T q n (fu (spn (x 0) (x 13 0) (j) (znF (fun i => wrt (y 38 i)) z)) ((x 13 0) - j) (wrt (y 38 (j)) + 0)) (x 1) (mkF (x 2) (x 18 0)) (cdF (x 2) (x 18 0)) (x 3) (x 4) (x 11 0) (x 12 0) (x 13 0) (x 14 0) (x 15 0) (x 16 0) (x 17 0) (x 18 0) (x 19 0) (x 20 0) (x 21 0) (x 22 0) (y 31 0) (y 32 0) (y 33 0) (y 34 0) (y 35 0) (y 36 0) (y 37) (y 38) (y 39)) H := hP
          have hD : va_D A (moW T q n (fu (spn (x 0) (x 13 0) (j) (znF (fun i => wrt (y 38 i)) z)) ((x 13 0) - j) (wrt (y 38 (j)) + 0)) (x 1) (mkF (x 2) (x 18 0)) (cdF (x 2) (x 18 0)) (x 3) (x 4) (x 11 0) (x 12 0) (x 13 0) (x 14 0) (x 15 0) (x 16 0) (x 17 0) (x 18 0) (x 19 0) (x 20 0) (x 21 0) (x 22 0) (y 31 0) (y 32 0) (y 33 0) (y 34 0) (y 35 0) (y 36 0) (y 37) (y 38) (y 39)) := hD
          have hC : okC (fu (spn (x 0) (x 13 0) (j) (znF (fun i => wrt (y 38 i)) z)) ((x 13 0) - j) (wrt (y 38 (j)) + 0)) (x 1) := okC_fu hC (by omega)
          refine cx_iinc (k := 0) (lv' := [(3, .int (iI (j + 1))), (0, .ref (q 20)), (1, .int (iI (k))), (2, .int (iI (z)))]) hx hb d_MO_writeDigits_38 hl rfl (by decide) rfl (fun ls hl => ?_)
          refine lv_goto (tgt := 2) hx hb d_MO_writeDigits_41 rfl ?_
          rw [spn_step (F := znF (fun i => wrt (y 38 i)) z) (by omega) (by unfold znF; rw [if_neg (by omega)])] at hP hD hC
          exact ih1 (j + 1) _ _ _ (by omega) hC hP hD hS (lv_sub hl [0, 1, 2, 3] rfl)
        · refine lv_iload_n hx hb d_MO_writeDigits_30 rfl (lv_at hl 3 rfl) ?_
          refine lv_goto (tgt := 35) hx hb d_MO_writeDigits_31 rfl ?_
          refine lv_ior hx hb d_MO_writeDigits_35 ?_
          refine cx_eq (bt_dzz (by omega) hz) ?_
          refine lv_i2b (v := iI (wrt (y 38 (j)) + z)) hx hb d_MO_writeDigits_36 (i2b_ok (by omega)) ?_
          refine cx_bast (g := iF (spn (x 0) (x 13 0) (j) (znF (fun i => wrt (y 38 i)) z))) (g' := iF (fu (spn (x 0) (x 13 0) (j) (znF (fun i => wrt (y 38 i)) z)) ((x 13 0) - j) (wrt (y 38 (j)) + z))) hx hb hK hP hD hS 1 1 rfl rfl (by omega) (by omega) (by omega) (fun j => iF_put j) d_MO_writeDigits_37 (fun H locs hP hD hS => ?_)
          have hP : va_P D vwCl (moW T q n (fu (spn (x 0) (x 13 0) (j) (znF (fun i => wrt (y 38 i)) z)) ((x 13 0) - j) (wrt (y 38 (j)) + z)) (x 1) (mkF (x 2) (x 18 0)) (cdF (x 2) (x 18 0)) (x 3) (x 4) (x 11 0) (x 12 0) (x 13 0) (x 14 0) (x 15 0) (x 16 0) (x 17 0) (x 18 0) (x 19 0) (x 20 0) (x 21 0) (x 22 0) (y 31 0) (y 32 0) (y 33 0) (y 34 0) (y 35 0) (y 36 0) (y 37) (y 38) (y 39)) H := hP
          have hD : va_D A (moW T q n (fu (spn (x 0) (x 13 0) (j) (znF (fun i => wrt (y 38 i)) z)) ((x 13 0) - j) (wrt (y 38 (j)) + z)) (x 1) (mkF (x 2) (x 18 0)) (cdF (x 2) (x 18 0)) (x 3) (x 4) (x 11 0) (x 12 0) (x 13 0) (x 14 0) (x 15 0) (x 16 0) (x 17 0) (x 18 0) (x 19 0) (x 20 0) (x 21 0) (x 22 0) (y 31 0) (y 32 0) (y 33 0) (y 34 0) (y 35 0) (y 36 0) (y 37) (y 38) (y 39)) := hD
          have hC : okC (fu (spn (x 0) (x 13 0) (j) (znF (fun i => wrt (y 38 i)) z)) ((x 13 0) - j) (wrt (y 38 (j)) + z)) (x 1) := okC_fu hC (by omega)
          refine cx_iinc (k := 0) (lv' := [(3, .int (iI (j + 1))), (0, .ref (q 20)), (1, .int (iI (k))), (2, .int (iI (z)))]) hx hb d_MO_writeDigits_38 hl rfl (by decide) rfl (fun ls hl => ?_)
          refine lv_goto (tgt := 2) hx hb d_MO_writeDigits_41 rfl ?_
          rw [spn_step (F := znF (fun i => wrt (y 38 i)) z) (by omega) (by unfold znF; rw [if_pos (by omega)])] at hP hD hC
          exact ih1 (j + 1) _ _ _ (by omega) hC hP hD hS (lv_sub hl [0, 1, 2, 3] rfl)
  rw [← spn_0 (x 0) (x 13 0) (znF (fun i => wrt (y 38 i)) z)] at hP hD
  exact L1 2001 0 _ _ _ (by omega) (by rw [spn_0]; exact hC) hP hD hS (lv_sub hl [0, 1, 2, 3] rfl)

set_option maxHeartbeats 4000000 in
set_option maxRecDepth 100000 in
theorem c_MO_isMore (l : Launch) (D : va_G) (T : Nat → ClassId) (sz : Nat) (q : Nat → Nat) (n : Nat) (hn : 400 ≤ n ∧ n ≤ 2000) (x y : SX) (hX : okX x) (k : Int) (hk : 0 ≤ k ∧ k ≤ n) (hd : ∀ i, 0 ≤ i → i < k → (0 ≤ y 37 i ∧ y 37 i < 10) ∧ (0 ≤ y 38 i ∧ y 38 i < 10)) : MI l y_MO_isMore (wY y_MO_isMore b_MO_isMore 4 (some .boolean)) (rmK 1) D vwCl (tyL T) nwL sz [.ref (q 20), .int (iI (k))] (moW T q n (x 0) (x 1) (mkF (x 2) (x 18 0)) (cdF (x 2) (x 18 0)) (x 3) (x 4) (x 11 0) (x 12 0) (x 13 0) (x 14 0) (x 15 0) (x 16 0) (x 17 0) (x 18 0) (x 19 0) (x 20 0) (x 21 0) (x 22 0) (y 31 0) (y 32 0) (y 33 0) (y 34 0) (y 35 0) (y 36 0) (y 37) (y 38) (y 39)) (fun r (_ : Unit) => r = iI (gtr (y 37) (y 38) (k).toNat)) (fun _ => moX T q n x y) := by
  refine cx_inZ (by decide) rfl (Nat.le_of_ble_eq_true rfl) ?_
  intro p e s m below meth cd ls A Q hx hb hml hT hown hret hP hK hD hN hS hA hl
  have hown : s.vm.findClass R_MO = some m.cls := hown
  have hl : lv_has ls 4 [(0, .ref (q 20)), (1, .int (iI (k)))] := hl
  have hC := hX.1
  have hR0 := hX.2.1
  have hF := hX.2.2
  unfold okR at hR0
  refine cx_iconst hx hb d_MO_isMore_0 ?_
  refine lv_istore_n (lv' := [(2, .int (iI (0))), (0, .ref (q 20)), (1, .int (iI (k)))]) hx hb d_MO_isMore_1 rfl hl (by decide) rfl (fun ls hl => ?_)
  refine cx_iconst hx hb d_MO_isMore_2 ?_
  refine lv_istore_n (lv' := [(3, .int (iI (0))), (2, .int (iI (0))), (0, .ref (q 20)), (1, .int (iI (k)))]) hx hb d_MO_isMore_3 rfl hl (by decide) rfl (fun ls hl => ?_)
  have L1 : ∀ (k_ : Nat) (j : Int) (t : Int) (H : Heap) (locs : List Loc) (ls : Array Slot), (0 ≤ j ∧ j ≤ k ∧ k - j < k_) → (t = 0 ∨ t = 1) → (t = gtr (y 37) (y 38) (j).toNat) → va_P D vwCl (moW T q n (x 0) (x 1) (mkF (x 2) (x 18 0)) (cdF (x 2) (x 18 0)) (x 3) (x 4) (x 11 0) (x 12 0) (x 13 0) (x 14 0) (x 15 0) (x 16 0) (x 17 0) (x 18 0) (x 19 0) (x 20 0) (x 21 0) (x 22 0) (y 31 0) (y 32 0) (y 33 0) (y 34 0) (y 35 0) (y 36 0) (y 37) (y 38) (y 39)) H → va_D A (moW T q n (x 0) (x 1) (mkF (x 2) (x 18 0)) (cdF (x 2) (x 18 0)) (x 3) (x 4) (x 11 0) (x 12 0) (x 13 0) (x 14 0) (x 15 0) (x 16 0) (x 17 0) (x 18 0) (x 19 0) (x 20 0) (x 21 0) (x 22 0) (y 31 0) (y 32 0) (y 33 0) (y 34 0) (y 35 0) (y 36 0) (y 37) (y 38) (y 39)) → va_S A s.heap H locs → lv_has ls 4 [(3, .int (iI (j))), (2, .int (iI (t))), (0, .ref (q 20)), (1, .int (iI (k)))] → W p l e (rmK 1) s m ([.ref (q 20), .int (iI (k))] : List Value).toArray below meth cd H locs 0 0 Q (F0 m 4 ls []) := by
    intro k_
    induction k_ with
    | zero => intro j t H locs ls hj ht hv _ _ _ _; exact absurd hj (by omega)
    | succ k_ ih1 =>
      intro j t H locs ls hj ht hv hP hD hS hl
      refine lv_iload_n hx hb d_MO_isMore_4 rfl (lv_at hl 0 rfl) ?_
      refine lv_iload_n hx hb d_MO_isMore_5 rfl (lv_at hl 3 rfl) ?_
      refine cx_icmp_ge (tgt := 55) hx hb d_MO_isMore_6 rfl (by omega) (by omega) (fun h6 => ?_) (fun h6 => ?_)
      · obtain rfl : j = k := by omega
        refine lv_iload_n hx hb d_MO_isMore_55 rfl (lv_at hl 1 rfl) ?_
        exact hret () (bool_of ht) (by rw [hv]) hP hD hS d_MO_isMore_56
      · have hd9 := hd j (by omega) (by omega)
        refine lv_aload_n hx hb d_MO_isMore_9 rfl (lv_at hl 2 rfl) ?_
        refine va_get (D := D) (ci := 5) (v := .ref (q 27)) (C := R_MO) (T := T_MO) (N := 28) hx hb hT lays_MO hown hK hP 0 rfl rfl 25 (by decide) (hT _ tw_661) (fun _ h9 => h9) rfl d_MO_isMore_10 ?_
        refine lv_iload_n hx hb d_MO_isMore_13 rfl (lv_at hl 0 rfl) ?_
        refine cx_iald (g := iF (y 37)) hx hb hK hP 7 0 rfl rfl (by omega) (by omega) d_MO_isMore_14 ?_
        refine lv_aload_n hx hb d_MO_isMore_15 rfl (lv_at hl 2 rfl) ?_
        refine va_get (D := D) (ci := 5) (v := .ref (q 28)) (C := R_MO) (T := T_MO) (N := 28) hx hb hT lays_MO hown hK hP 0 rfl rfl 26 (by decide) (hT _ tw_662) (fun _ h9 => h9) rfl d_MO_isMore_16 ?_
        refine lv_iload_n hx hb d_MO_isMore_19 rfl (lv_at hl 0 rfl) ?_
        refine cx_iald (g := iF (y 38)) hx hb hK hP 8 0 rfl rfl (by omega) (by omega) d_MO_isMore_20 ?_
        refine cx_icmp_eq (tgt := 47) hx hb d_MO_isMore_21 rfl (by omega) (by omega) (fun h21 => ?_) (fun h21 => ?_)
        · refine lv_iload_n hx hb d_MO_isMore_47 rfl (lv_at hl 1 rfl) ?_
          refine lv_istore_n (lv' := [(2, .int (iI (t))), (3, .int (iI (j))), (0, .ref (q 20)), (1, .int (iI (k)))]) hx hb d_MO_isMore_48 rfl hl (by decide) rfl (fun ls hl => ?_)
          refine cx_iinc (k := 1) (lv' := [(3, .int (iI (j + 1))), (2, .int (iI (t))), (0, .ref (q 20)), (1, .int (iI (k)))]) hx hb d_MO_isMore_49 hl rfl (by decide) rfl (fun ls hl => ?_)
          refine lv_goto (tgt := 4) hx hb d_MO_isMore_52 rfl ?_
          exact ih1 (j + 1) t _ _ _ (by omega) (by omega) (by rw [gtr_step (by omega), if_pos (by omega)]; exact hv) hP hD hS (lv_sub hl [0, 1, 2, 3] rfl)
        · refine lv_aload_n hx hb d_MO_isMore_24 rfl (lv_at hl 2 rfl) ?_
          refine va_get (D := D) (ci := 5) (v := .ref (q 27)) (C := R_MO) (T := T_MO) (N := 28) hx hb hT lays_MO hown hK hP 0 rfl rfl 25 (by decide) (hT _ tw_661) (fun _ h9 => h9) rfl d_MO_isMore_25 ?_
          refine lv_iload_n hx hb d_MO_isMore_28 rfl (lv_at hl 0 rfl) ?_
          refine cx_iald (g := iF (y 37)) hx hb hK hP 7 0 rfl rfl (by omega) (by omega) d_MO_isMore_29 ?_
          refine lv_aload_n hx hb d_MO_isMore_30 rfl (lv_at hl 2 rfl) ?_
          refine va_get (D := D) (ci := 5) (v := .ref (q 28)) (C := R_MO) (T := T_MO) (N := 28) hx hb hT lays_MO hown hK hP 0 rfl rfl 26 (by decide) (hT _ tw_662) (fun _ h9 => h9) rfl d_MO_isMore_31 ?_
          refine lv_iload_n hx hb d_MO_isMore_34 rfl (lv_at hl 0 rfl) ?_
          refine cx_iald (g := iF (y 38)) hx hb hK hP 8 0 rfl rfl (by omega) (by omega) d_MO_isMore_35 ?_
          refine cx_icmp_le (tgt := 43) hx hb d_MO_isMore_36 rfl (by omega) (by omega) (fun h36 => ?_) (fun h36 => ?_)
          · refine cx_iconst hx hb d_MO_isMore_43 ?_
            refine lv_goto (tgt := 48) hx hb d_MO_isMore_44 rfl ?_
            refine lv_istore_n (lv' := [(2, .int (iI (0))), (3, .int (iI (j))), (0, .ref (q 20)), (1, .int (iI (k)))]) hx hb d_MO_isMore_48 rfl hl (by decide) rfl (fun ls hl => ?_)
            refine cx_iinc (k := 1) (lv' := [(3, .int (iI (j + 1))), (2, .int (iI (0))), (0, .ref (q 20)), (1, .int (iI (k)))]) hx hb d_MO_isMore_49 hl rfl (by decide) rfl (fun ls hl => ?_)
            refine lv_goto (tgt := 4) hx hb d_MO_isMore_52 rfl ?_
            exact ih1 (j + 1) 0 _ _ _ (by omega) (by omega) (by rw [gtr_step (by omega), if_neg (by omega), if_neg (by omega)]) hP hD hS (lv_sub hl [0, 1, 2, 3] rfl)
          · refine cx_iconst hx hb d_MO_isMore_39 ?_
            refine lv_goto (tgt := 48) hx hb d_MO_isMore_40 rfl ?_
            refine lv_istore_n (lv' := [(2, .int (iI (1))), (3, .int (iI (j))), (0, .ref (q 20)), (1, .int (iI (k)))]) hx hb d_MO_isMore_48 rfl hl (by decide) rfl (fun ls hl => ?_)
            refine cx_iinc (k := 1) (lv' := [(3, .int (iI (j + 1))), (2, .int (iI (1))), (0, .ref (q 20)), (1, .int (iI (k)))]) hx hb d_MO_isMore_49 hl rfl (by decide) rfl (fun ls hl => ?_)
            refine lv_goto (tgt := 4) hx hb d_MO_isMore_52 rfl ?_
            exact ih1 (j + 1) 1 _ _ _ (by omega) (by omega) (by rw [gtr_step (by omega), if_neg (by omega), if_pos (by omega)]) hP hD hS (lv_sub hl [0, 1, 2, 3] rfl)
  exact L1 2001 0 0 _ _ _ (by omega) (by omega) rfl hP hD hS (lv_sub hl [0, 1, 2, 3] rfl)

set_option maxHeartbeats 4000000 in
set_option maxRecDepth 100000 in
theorem c_MO_reset (l : Launch) (D : va_G) (T : Nat → ClassId) (sz : Nat) (q : Nat → Nat) (n : Nat) (hn : 400 ≤ n ∧ n ≤ 2000) (x y : SX) (hX : okX x) (hY : (0 ≤ y 32 0 ∧ y 32 0 < 64) ∧ (1 ≤ y 33 0 ∧ y 33 0 ≤ 8)) : MI l y_MO_reset (wY y_MO_reset b_MO_reset 4 (some .int)) (rmK 2) D vwCl (tyL T) nwL sz [.ref (q 20)] (moW T q n (x 0) (x 1) (mkF (x 2) (x 18 0)) (cdF (x 2) (x 18 0)) (x 3) (x 4) (x 11 0) (x 12 0) (x 13 0) (x 14 0) (x 15 0) (x 16 0) (x 17 0) (x 18 0) (x 19 0) (x 20 0) (x 21 0) (x 22 0) (y 31 0) (y 32 0) (y 33 0) (y 34 0) (y 35 0) (y 36 0) (y 37) (y 38) (y 39)) (fun r (u : SX × SX) => pst (calS n 1 (if y 32 0 = 42 then 1 else 0) x) r u.1 ∧ (u.2 31 = y 31 ∧ u.2 33 = y 33)) (fun (u : SX × SX) => moX T q n u.1 u.2) := by
  refine cx_inI (by decide) rfl (Nat.le_of_ble_eq_true rfl) ?_
  intro p e s m below meth cd ls A Q hx hb hml hT hown hret hP hK hD hN hS hA hl
  have hown : s.vm.findClass R_MO = some m.cls := hown
  have hl : lv_has ls 4 [(0, .ref (q 20))] := hl
  have hC := hX.1
  have hR0 := hX.2.1
  have hF := hX.2.2
  unfold okR at hR0
  have hcA := hC.1 (x 12 0)
  refine lv_aload_n hx hb d_MO_reset_0 rfl (lv_at hl 0 rfl) ?_
  refine lv_aload_n hx hb d_MO_reset_1 rfl (lv_at hl 0 rfl) ?_
  refine va_get (D := D) (ci := 5) (v := .int (iI (x 13 0))) (C := R_MO) (T := T_MO) (N := 28) hx hb hT lays_MO hown hK hP 0 rfl rfl 6 (by decide) (hT _ tw_642) (fun _ h9 => h9) rfl d_MO_reset_2 ?_
  refine cx_sipush hx hb d_MO_reset_5 rfl ?_
  refine cx_cI (ws2 := fun _ => moW T q n (x 0) (x 1) (mkF (x 2) (x 18 0)) (cdF (x 2) (x 18 0)) (x 3) (x 4) (x 11 0) (x 12 0) (x 13 0) (x 14 0) (x 15 0) (x 16 0) (x 17 0) (x 18 0) (x 19 0) (x 20 0) (x 21 0) (x 22 0) (y 31 0) (y 32 0) (y 33 0) (y 34 0) (y 35 0) (y 36 0) (y 37) (y 38) (y 39)) (cx_rV (q0 := 0) (ci := 5) (rest := []) (As := [.int (iI (x 13 0)), .int (iI (3000))]) hx hb hml hown hT hK hN hP hD hl.1 tw_786 k_MO_field (c_MO_field l D T s.heap.size q n hn x y hX (x 13 0) 3000 (by omega) (by omega)) ⟨by decide, by decide⟩ ⟨rfl, rfl⟩ [0, 1, 2, 3, 4, 5, 6, 7, 8, 9] (by decide) rfl rfl rfl rfl rfl (Nat.le_of_ble_eq_true rfl) ⟨Nat.zero_le _, Nat.zero_le _⟩ d_MO_reset_8) hP hD hS hA [0, 1, 2, 3, 4, 5, 6, 7, 8, 9] [] [0, 1, 2, 3, 4, 5, 6, 7, 8, 9] rfl (wr := []) rfl (by decide) (by decide) (fun _ => rfl) (by decide) (fun r u_ H locs hq8 hP hD hS => ?_)
  subst hq8
  refine cx_eq (y := iI (fld n (x 1) (x 13 0) 3000 2001 1)) rfl ?_
  refine lv_istore_n (lv' := [(1, .int (iI (fld n (x 1) (x 13 0) 3000 2001 1))), (0, .ref (q 20))]) hx hb d_MO_reset_11 rfl hl (by decide) rfl (fun ls hl => ?_)
  obtain ⟨k, hk⟩ : ∃ z, z = fld n (x 1) (x 13 0) 3000 2001 1 := ⟨_, rfl⟩
  rw [← hk] at hl
  have hk1 := fld_in hk
  refine lv_iload_n hx hb d_MO_reset_12 rfl (lv_at hl 0 rfl) ?_
  refine cx_if_ne (tgt := 20) hx hb d_MO_reset_13 rfl (by omega) (fun h13 => ?_) (fun h13 => ?_)
  · refine lv_aload_n hx hb d_MO_reset_20 rfl (lv_at hl 1 rfl) ?_
    refine lv_aload_n hx hb d_MO_reset_21 rfl (lv_at hl 1 rfl) ?_
    refine va_get (D := D) (ci := 5) (v := .int (iI (x 12 0))) (C := R_MO) (T := T_MO) (N := 28) hx hb hT lays_MO hown hK hP 0 rfl rfl 5 (by decide) (hT _ tw_641) (fun _ h9 => h9) rfl d_MO_reset_22 ?_
    refine lv_iload_n hx hb d_MO_reset_25 rfl (lv_at hl 0 rfl) ?_
    refine cx_cI (ws2 := fun _ => moW T q n (x 0) (x 1) (mkF (x 2) (x 18 0)) (cdF (x 2) (x 18 0)) (x 3) (x 4) (x 11 0) (x 12 0) (x 13 0) (x 14 0) (x 15 0) (x 16 0) (x 17 0) (x 18 0) (x 19 0) (x 20 0) (x 21 0) (x 22 0) (y 31 0) (y 32 0) (y 33 0) (y 34 0) (y 35 0) (y 36 0) (y 37) (y 38) (y 39)) (cx_rV (q0 := 0) (ci := 5) (rest := []) (As := [.int (iI (x 12 0)), .int (iI (k))]) hx hb hml hown hT hK hN hP hD hl.1 tw_786 k_MO_field (c_MO_field l D T H.size q n hn x y hX (x 12 0) k (by omega) (by omega)) ⟨by decide, by decide⟩ ⟨rfl, rfl⟩ [0, 1, 2, 3, 4, 5, 6, 7, 8, 9] (by decide) rfl rfl rfl rfl rfl (Nat.le_of_ble_eq_true rfl) ⟨Nat.zero_le _, Nat.zero_le _⟩ d_MO_reset_26) hP hD hS hA [0, 1, 2, 3, 4, 5, 6, 7, 8, 9] [] [0, 1, 2, 3, 4, 5, 6, 7, 8, 9] rfl (wr := []) rfl (by decide) (by decide) (fun _ => rfl) (by decide) (fun r u_ H locs hq26 hP hD hS => ?_)
    subst hq26
    refine cx_eq (y := iI (fld n (x 1) (x 12 0) k 2001 1)) rfl ?_
    refine lv_istore_n (lv' := [(2, .int (iI (fld n (x 1) (x 12 0) k 2001 1))), (1, .int (iI (k))), (0, .ref (q 20))]) hx hb d_MO_reset_29 rfl hl (by decide) rfl (fun ls hl => ?_)
    obtain ⟨p2, hp2⟩ : ∃ z, z = fld n (x 1) (x 12 0) k 2001 1 := ⟨_, rfl⟩
    rw [← hp2] at hl
    have hp1 := fld_in hp2
    have hp3 := fld_le hp2 (by omega)
    refine lv_iload_n hx hb d_MO_reset_30 rfl (lv_at hl 0 rfl) ?_
    refine cx_if_ne (tgt := 36) hx hb d_MO_reset_31 rfl (by omega) (fun h31 => ?_) (fun h31 => ?_)
    · have J70 : ∀ (v70 : Int) (H : Heap) (locs : List Loc), ((v70 = 1 ∧ ¬ (zn (x 0 (x 12 0)) = 32 ↔ y 32 0 = 42)) ∨ (v70 = 0 ∧ (zn (x 0 (x 12 0)) = 32 ↔ y 32 0 = 42))) → va_P D vwCl (moW T q n (x 0) (x 1) (mkF (x 2) (x 18 0)) (cdF (x 2) (x 18 0)) (x 3) (x 4) (x 11 0) (x 12 0) (x 13 0) (x 14 0) (x 15 0) (x 16 0) (x 17 0) (x 18 0) (x 19 0) (x 20 0) (x 21 0) (x 22 0) (y 31 0) (y 32 0) (y 33 0) (y 34 0) (y 35 0) (y 36 0) (y 37) (y 38) (y 39)) H → va_D A (moW T q n (x 0) (x 1) (mkF (x 2) (x 18 0)) (cdF (x 2) (x 18 0)) (x 3) (x 4) (x 11 0) (x 12 0) (x 13 0) (x 14 0) (x 15 0) (x 16 0) (x 17 0) (x 18 0) (x 19 0) (x 20 0) (x 21 0) (x 22 0) (y 31 0) (y 32 0) (y 33 0) (y 34 0) (y 35 0) (y 36 0) (y 37) (y 38) (y 39)) → va_S A s.heap H locs → W p l e (rmK 2) s m ([.ref (q 20)] : List Value).toArray below meth cd H locs 0 0 Q (F0 m 70 ls [.int (iI v70)]) := by
        intro v70 H locs hv70 hP hD hS
        refine lv_istore_n (lv' := [(3, .int (iI (v70))), (2, .int (iI (p2))), (1, .int (iI (k))), (0, .ref (q 20))]) hx hb d_MO_reset_70 rfl hl (by decide) rfl (fun ls hl => ?_)
        refine lv_aload_n hx hb d_MO_reset_71 rfl (lv_at hl 3 rfl) ?_
        refine lv_aload_n hx hb d_MO_reset_72 rfl (lv_at hl 3 rfl) ?_
        refine va_get (D := D) (ci := 5) (v := .ref (q 28)) (C := R_MO) (T := T_MO) (N := 28) hx hb hT lays_MO hown hK hP 0 rfl rfl 26 (by decide) (hT _ tw_662) (fun _ h9 => h9) rfl d_MO_reset_73 ?_
        refine lv_aload_n hx hb d_MO_reset_76 rfl (lv_at hl 3 rfl) ?_
        refine va_get (D := D) (ci := 5) (v := .int (iI (x 12 0))) (C := R_MO) (T := T_MO) (N := 28) hx hb hT lays_MO hown hK hP 0 rfl rfl 5 (by decide) (hT _ tw_641) (fun _ h9 => h9) rfl d_MO_reset_77 ?_
        refine lv_iload_n hx hb d_MO_reset_80 rfl (lv_at hl 1 rfl) ?_
        refine lv_iload_n hx hb d_MO_reset_81 rfl (lv_at hl 2 rfl) ?_
        refine cx_cV (ws2 := fun _ => moW T q n (x 0) (x 1) (mkF (x 2) (x 18 0)) (cdF (x 2) (x 18 0)) (x 3) (x 4) (x 11 0) (x 12 0) (x 13 0) (x 14 0) (x 15 0) (x 16 0) (x 17 0) (x 18 0) (x 19 0) (x 20 0) (x 21 0) (x 22 0) (y 31 0) (y 32 0) (y 33 0) (y 34 0) (y 35 0) (y 36 0) (y 37) (spa (y 38) 0 k (rdg (x 0) (x 12 0) p2)) (y 39)) (cx_rV (q0 := 0) (ci := 5) (rest := []) (As := [.ref (q 28), .int (iI (x 12 0)), .int (iI (p2)), .int (iI (k))]) hx hb hml hown hT hK hN hP hD hl.1 tw_796 k_MO_readDigits (c_MO_readDigitsB l D T H.size q n hn x y hX (x 12 0) p2 k (by omega) (by omega) (by omega)) ⟨by decide, by decide⟩ ⟨rfl, rfl⟩ [0, 1, 2, 3, 4, 5, 6, 7, 8, 9] (by decide) rfl rfl rfl rfl rfl (Nat.le_of_ble_eq_true rfl) ⟨Nat.zero_le _, Nat.zero_le _⟩ d_MO_reset_82) hP hD hS hA [0, 1, 2, 3, 4, 5, 6, 7, 8, 9] [] [0, 1, 2, 3, 4, 5, 6, 7, 8, 9] rfl (wr := []) rfl (by decide) (by decide) (fun _ => rfl) (by decide) (fun u_ H locs hq82 hP hD hS => ?_)
        obtain ⟨t2, ht2⟩ : ∃ c, c = spa (y 38) 0 k (rdg (x 0) (x 12 0) p2) := ⟨_, rfl⟩
        rw [← ht2] at hP hD
        have ht3 : ∀ i, 0 ≤ i → i < k → t2 i = rdg (x 0) (x 12 0) p2 i := fun i h0 h1 => by rw [ht2, spa_in (j := i) ⟨h0, h1⟩ (by omega)]
        have hw2 : ∀ i, 0 ≤ i → i < k → 0 ≤ t2 i ∧ t2 i < 10 := fun i h0 h1 => by rw [ht3 i h0 h1]; exact rdg_in hX.1 _ _ _
        refine lv_aload_n hx hb d_MO_reset_85 rfl (lv_at hl 3 rfl) ?_
        refine lv_iload_n hx hb d_MO_reset_86 rfl (lv_at hl 2 rfl) ?_
        refine lv_iload_n hx hb d_MO_reset_87 rfl (lv_at hl 0 rfl) ?_
        refine cx_if_eq (tgt := 96) hx hb d_MO_reset_88 rfl (by omega) (fun h88 => ?_) (fun h88 => ?_)
        · refine cx_bipush hx hb d_MO_reset_96 rfl ?_
          refine cx_cV (ws2 := fun _ => moW T q n (spn (x 0) (x 13 0) k (znF (fun i => wrt (t2 i)) 48)) (x 1) (mkF (x 2) (x 18 0)) (cdF (x 2) (x 18 0)) (x 3) (x 4) (x 11 0) (x 12 0) (x 13 0) (x 14 0) (x 15 0) (x 16 0) (x 17 0) (x 18 0) (x 19 0) (x 20 0) (x 21 0) (x 22 0) (y 31 0) (y 32 0) (y 33 0) (y 34 0) (y 35 0) (y 36 0) (y 37) t2 (y 39)) (cx_rV (q0 := 0) (ci := 5) (rest := []) (As := [.int (iI (k)), .int (iI (48))]) hx hb hml hown hT hK hN hP hD hl.1 tw_800 k_MO_writeDigits (c_MO_writeDigits l D T H.size q n hn x (up y 38 t2) hX k 48 (show 1 ≤ k ∧ k ≤ x 13 0 + 1 ∧ (0 ≤ x 13 0 ∧ x 13 0 < n) by omega) (by omega) hw2) ⟨by decide, by decide⟩ ⟨rfl, rfl⟩ [0, 1, 2, 3, 4, 5, 6, 7, 8, 9] (by decide) rfl rfl rfl rfl rfl (Nat.le_of_ble_eq_true rfl) ⟨Nat.zero_le _, Nat.zero_le _⟩ d_MO_reset_98) hP hD hS hA [0, 1, 2, 3, 4, 5, 6, 7, 8, 9] [] [0, 1, 2, 3, 4, 5, 6, 7, 8, 9] rfl (wr := []) rfl (by decide) (by decide) (fun _ => rfl) (by decide) (fun u_ H locs hq98 hP hD hS => ?_)
          have hC : okC (spn (x 0) (x 13 0) k (znF (fun i => wrt (t2 i)) 48)) (x 1) := okC_zn hC (by omega) (fun i h0 h1 => by have h8 := wrt_in (hw2 i h0 h1); omega)
          refine lv_aload_n hx hb d_MO_reset_101 rfl (lv_at hl 3 rfl) ?_
          refine lv_dup hx hb d_MO_reset_102 rfl ?_
          refine va_get (D := D) (ci := 5) (v := .int (iI (x 12 0))) (C := R_MO) (T := T_MO) (N := 28) hx hb hT lays_MO hown hK hP 0 rfl rfl 5 (by decide) (hT _ tw_641) (fun _ h9 => h9) rfl d_MO_reset_103 ?_
          refine lv_iload_n hx hb d_MO_reset_106 rfl (lv_at hl 1 rfl) ?_
          refine cx_isub hx hb d_MO_reset_107 ?_
          refine va_put (D := D) (ci := 5) (v := .int (iI ((x 12 0) - p2))) (ty := .int) (C := R_MO) (T := T_MO) (N := 28) hx hb hT lays_MO t_MO t_MO_ok n_MO hown hK hP hD hS 0 rfl rfl 5 (by decide) (hT _ tw_641) (fun _ h9 => h9) rfl (by decide +kernel) rfl rfl (Nat.le_of_ble_eq_true rfl) d_MO_reset_108 (fun H locs hP hD hS => ?_)
          have hP : va_P D vwCl (moW T q n (spn (x 0) (x 13 0) k (znF (fun i => wrt (t2 i)) 48)) (x 1) (mkF (x 2) (x 18 0)) (cdF (x 2) (x 18 0)) (x 3) (x 4) (x 11 0) ((x 12 0) - p2) (x 13 0) (x 14 0) (x 15 0) (x 16 0) (x 17 0) (x 18 0) (x 19 0) (x 20 0) (x 21 0) (x 22 0) (y 31 0) (y 32 0) (y 33 0) (y 34 0) (y 35 0) (y 36 0) (y 37) t2 (y 39)) H := hP
          have hD : va_D A (moW T q n (spn (x 0) (x 13 0) k (znF (fun i => wrt (t2 i)) 48)) (x 1) (mkF (x 2) (x 18 0)) (cdF (x 2) (x 18 0)) (x 3) (x 4) (x 11 0) ((x 12 0) - p2) (x 13 0) (x 14 0) (x 15 0) (x 16 0) (x 17 0) (x 18 0) (x 19 0) (x 20 0) (x 21 0) (x 22 0) (y 31 0) (y 32 0) (y 33 0) (y 34 0) (y 35 0) (y 36 0) (y 37) t2 (y 39)) := hD
          refine lv_aload_n hx hb d_MO_reset_111 rfl (lv_at hl 3 rfl) ?_
          refine lv_dup hx hb d_MO_reset_112 rfl ?_
          refine va_get (D := D) (ci := 5) (v := .int (iI (x 13 0))) (C := R_MO) (T := T_MO) (N := 28) hx hb hT lays_MO hown hK hP 0 rfl rfl 6 (by decide) (hT _ tw_642) (fun _ h9 => h9) rfl d_MO_reset_113 ?_
          refine lv_iload_n hx hb d_MO_reset_116 rfl (lv_at hl 2 rfl) ?_
          refine cx_isub hx hb d_MO_reset_117 ?_
          refine va_put (D := D) (ci := 5) (v := .int (iI ((x 13 0) - k))) (ty := .int) (C := R_MO) (T := T_MO) (N := 28) hx hb hT lays_MO t_MO t_MO_ok n_MO hown hK hP hD hS 0 rfl rfl 6 (by decide) (hT _ tw_642) (fun _ h9 => h9) rfl (by decide +kernel) rfl rfl (Nat.le_of_ble_eq_true rfl) d_MO_reset_118 (fun H locs hP hD hS => ?_)
          have hP : va_P D vwCl (moW T q n (spn (x 0) (x 13 0) k (znF (fun i => wrt (t2 i)) 48)) (x 1) (mkF (x 2) (x 18 0)) (cdF (x 2) (x 18 0)) (x 3) (x 4) (x 11 0) ((x 12 0) - p2) ((x 13 0) - k) (x 14 0) (x 15 0) (x 16 0) (x 17 0) (x 18 0) (x 19 0) (x 20 0) (x 21 0) (x 22 0) (y 31 0) (y 32 0) (y 33 0) (y 34 0) (y 35 0) (y 36 0) (y 37) t2 (y 39)) H := hP
          have hD : va_D A (moW T q n (spn (x 0) (x 13 0) k (znF (fun i => wrt (t2 i)) 48)) (x 1) (mkF (x 2) (x 18 0)) (cdF (x 2) (x 18 0)) (x 3) (x 4) (x 11 0) ((x 12 0) - p2) ((x 13 0) - k) (x 14 0) (x 15 0) (x 16 0) (x 17 0) (x 18 0) (x 19 0) (x 20 0) (x 21 0) (x 22 0) (y 31 0) (y 32 0) (y 33 0) (y 34 0) (y 35 0) (y 36 0) (y 37) t2 (y 39)) := hD
          refine cx_iconst hx hb d_MO_reset_121 ?_
          exact hret ((up (up (up x 0 (spn (x 0) (x 13 0) k (znF (fun i => wrt (t2 i)) 48))) 12 (cst ((x 12 0) - p2))) 13 (cst ((x 13 0) - k)), up y 38 t2) : SX × SX) (⟨pst_of (by rw [v70_e (x := x) (o := y 32 0) (c := 42) hv70]; unfold calV; rw [← fld_3000 (by omega), ← hk, if_neg (by omega), ← hp2, if_neg (by omega)]; unfold calC; rw [if_pos rfl, spn_wrt ht3, show 16 * sgz v70 = 48 by unfold sgz; rw [if_neg (by omega)]; rfl]; rfl) (show okX (up (up (up x 0 (spn (x 0) (x 13 0) k (znF (fun i => wrt (t2 i)) 48))) 12 (cst ((x 12 0) - p2))) 13 (cst ((x 13 0) - k))) from ⟨hC, (show okR (x 11 0) ((x 12 0) - p2) ((x 13 0) - k) (x 14 0) (x 15 0) (x 16 0) (x 17 0) (x 18 0) (x 19 0) (x 20 0) by have h8 := hX.2.1; unfold okR at h8 ⊢; omega), hX.2.2⟩), ⟨rfl, rfl⟩⟩) hP hD hS d_MO_reset_122
        · refine cx_bipush hx hb d_MO_reset_91 rfl ?_
          refine lv_goto (tgt := 98) hx hb d_MO_reset_93 rfl ?_
          refine cx_cV (ws2 := fun _ => moW T q n (spn (x 0) (x 13 0) k (znF (fun i => wrt (t2 i)) 32)) (x 1) (mkF (x 2) (x 18 0)) (cdF (x 2) (x 18 0)) (x 3) (x 4) (x 11 0) (x 12 0) (x 13 0) (x 14 0) (x 15 0) (x 16 0) (x 17 0) (x 18 0) (x 19 0) (x 20 0) (x 21 0) (x 22 0) (y 31 0) (y 32 0) (y 33 0) (y 34 0) (y 35 0) (y 36 0) (y 37) t2 (y 39)) (cx_rV (q0 := 0) (ci := 5) (rest := []) (As := [.int (iI (k)), .int (iI (32))]) hx hb hml hown hT hK hN hP hD hl.1 tw_800 k_MO_writeDigits (c_MO_writeDigits l D T H.size q n hn x (up y 38 t2) hX k 32 (show 1 ≤ k ∧ k ≤ x 13 0 + 1 ∧ (0 ≤ x 13 0 ∧ x 13 0 < n) by omega) (by omega) hw2) ⟨by decide, by decide⟩ ⟨rfl, rfl⟩ [0, 1, 2, 3, 4, 5, 6, 7, 8, 9] (by decide) rfl rfl rfl rfl rfl (Nat.le_of_ble_eq_true rfl) ⟨Nat.zero_le _, Nat.zero_le _⟩ d_MO_reset_98) hP hD hS hA [0, 1, 2, 3, 4, 5, 6, 7, 8, 9] [] [0, 1, 2, 3, 4, 5, 6, 7, 8, 9] rfl (wr := []) rfl (by decide) (by decide) (fun _ => rfl) (by decide) (fun u_ H locs hq98 hP hD hS => ?_)
          have hC : okC (spn (x 0) (x 13 0) k (znF (fun i => wrt (t2 i)) 32)) (x 1) := okC_zn hC (by omega) (fun i h0 h1 => by have h8 := wrt_in (hw2 i h0 h1); omega)
          refine lv_aload_n hx hb d_MO_reset_101 rfl (lv_at hl 3 rfl) ?_
          refine lv_dup hx hb d_MO_reset_102 rfl ?_
          refine va_get (D := D) (ci := 5) (v := .int (iI (x 12 0))) (C := R_MO) (T := T_MO) (N := 28) hx hb hT lays_MO hown hK hP 0 rfl rfl 5 (by decide) (hT _ tw_641) (fun _ h9 => h9) rfl d_MO_reset_103 ?_
          refine lv_iload_n hx hb d_MO_reset_106 rfl (lv_at hl 1 rfl) ?_
          refine cx_isub hx hb d_MO_reset_107 ?_
          refine va_put (D := D) (ci := 5) (v := .int (iI ((x 12 0) - p2))) (ty := .int) (C := R_MO) (T := T_MO) (N := 28) hx hb hT lays_MO t_MO t_MO_ok n_MO hown hK hP hD hS 0 rfl rfl 5 (by decide) (hT _ tw_641) (fun _ h9 => h9) rfl (by decide +kernel) rfl rfl (Nat.le_of_ble_eq_true rfl) d_MO_reset_108 (fun H locs hP hD hS => ?_)
          have hP : va_P D vwCl (moW T q n (spn (x 0) (x 13 0) k (znF (fun i => wrt (t2 i)) 32)) (x 1) (mkF (x 2) (x 18 0)) (cdF (x 2) (x 18 0)) (x 3) (x 4) (x 11 0) ((x 12 0) - p2) (x 13 0) (x 14 0) (x 15 0) (x 16 0) (x 17 0) (x 18 0) (x 19 0) (x 20 0) (x 21 0) (x 22 0) (y 31 0) (y 32 0) (y 33 0) (y 34 0) (y 35 0) (y 36 0) (y 37) t2 (y 39)) H := hP
          have hD : va_D A (moW T q n (spn (x 0) (x 13 0) k (znF (fun i => wrt (t2 i)) 32)) (x 1) (mkF (x 2) (x 18 0)) (cdF (x 2) (x 18 0)) (x 3) (x 4) (x 11 0) ((x 12 0) - p2) (x 13 0) (x 14 0) (x 15 0) (x 16 0) (x 17 0) (x 18 0) (x 19 0) (x 20 0) (x 21 0) (x 22 0) (y 31 0) (y 32 0) (y 33 0) (y 34 0) (y 35 0) (y 36 0) (y 37) t2 (y 39)) := hD
          refine lv_aload_n hx hb d_MO_reset_111 rfl (lv_at hl 3 rfl) ?_
          refine lv_dup hx hb d_MO_reset_112 rfl ?_
          refine va_get (D := D) (ci := 5) (v := .int (iI (x 13 0))) (C := R_MO) (T := T_MO) (N := 28) hx hb hT lays_MO hown hK hP 0 rfl rfl 6 (by decide) (hT _ tw_642) (fun _ h9 => h9) rfl d_MO_reset_113 ?_
          refine lv_iload_n hx hb d_MO_reset_116 rfl (lv_at hl 2 rfl) ?_
          refine cx_isub hx hb d_MO_reset_117 ?_
          refine va_put (D := D) (ci := 5) (v := .int (iI ((x 13 0) - k))) (ty := .int) (C := R_MO) (T := T_MO) (N := 28) hx hb hT lays_MO t_MO t_MO_ok n_MO hown hK hP hD hS 0 rfl rfl 6 (by decide) (hT _ tw_642) (fun _ h9 => h9) rfl (by decide +kernel) rfl rfl (Nat.le_of_ble_eq_true rfl) d_MO_reset_118 (fun H locs hP hD hS => ?_)
          have hP : va_P D vwCl (moW T q n (spn (x 0) (x 13 0) k (znF (fun i => wrt (t2 i)) 32)) (x 1) (mkF (x 2) (x 18 0)) (cdF (x 2) (x 18 0)) (x 3) (x 4) (x 11 0) ((x 12 0) - p2) ((x 13 0) - k) (x 14 0) (x 15 0) (x 16 0) (x 17 0) (x 18 0) (x 19 0) (x 20 0) (x 21 0) (x 22 0) (y 31 0) (y 32 0) (y 33 0) (y 34 0) (y 35 0) (y 36 0) (y 37) t2 (y 39)) H := hP
          have hD : va_D A (moW T q n (spn (x 0) (x 13 0) k (znF (fun i => wrt (t2 i)) 32)) (x 1) (mkF (x 2) (x 18 0)) (cdF (x 2) (x 18 0)) (x 3) (x 4) (x 11 0) ((x 12 0) - p2) ((x 13 0) - k) (x 14 0) (x 15 0) (x 16 0) (x 17 0) (x 18 0) (x 19 0) (x 20 0) (x 21 0) (x 22 0) (y 31 0) (y 32 0) (y 33 0) (y 34 0) (y 35 0) (y 36 0) (y 37) t2 (y 39)) := hD
          refine cx_iconst hx hb d_MO_reset_121 ?_
          exact hret ((up (up (up x 0 (spn (x 0) (x 13 0) k (znF (fun i => wrt (t2 i)) 32))) 12 (cst ((x 12 0) - p2))) 13 (cst ((x 13 0) - k)), up y 38 t2) : SX × SX) (⟨pst_of (by rw [v70_e (x := x) (o := y 32 0) (c := 42) hv70]; unfold calV; rw [← fld_3000 (by omega), ← hk, if_neg (by omega), ← hp2, if_neg (by omega)]; unfold calC; rw [if_pos rfl, spn_wrt ht3, show 16 * sgz v70 = 32 by unfold sgz; rw [if_pos (by omega)]; rfl]; rfl) (show okX (up (up (up x 0 (spn (x 0) (x 13 0) k (znF (fun i => wrt (t2 i)) 32))) 12 (cst ((x 12 0) - p2))) 13 (cst ((x 13 0) - k))) from ⟨hC, (show okR (x 11 0) ((x 12 0) - p2) ((x 13 0) - k) (x 14 0) (x 15 0) (x 16 0) (x 17 0) (x 18 0) (x 19 0) (x 20 0) by have h8 := hX.2.1; unfold okR at h8 ⊢; omega), hX.2.2⟩), ⟨rfl, rfl⟩⟩) hP hD hS d_MO_reset_122
      refine lv_aload_n hx hb d_MO_reset_36 rfl (lv_at hl 2 rfl) ?_
      refine va_get (D := D) (ci := 5) (v := .ref (q 21)) (C := R_MO) (T := T_MO) (N := 28) hx hb hT lays_MO hown hK hP 0 rfl rfl 2 (by decide) (hT _ tw_638) (fun _ h9 => h9) rfl d_MO_reset_37 ?_
      refine lv_aload_n hx hb d_MO_reset_40 rfl (lv_at hl 2 rfl) ?_
      refine va_get (D := D) (ci := 5) (v := .int (iI (x 12 0))) (C := R_MO) (T := T_MO) (N := 28) hx hb hT lays_MO hown hK hP 0 rfl rfl 5 (by decide) (hT _ tw_641) (fun _ h9 => h9) rfl d_MO_reset_41 ?_
      refine cx_bald (g := iF (x 0)) hx hb hK hP 1 1 rfl rfl (by omega) (by omega) d_MO_reset_44 ?_
      have hc44 := hC.1 (x 12 0)
      refine cx_cI (ws2 := fun _ => moW T q n (x 0) (x 1) (mkF (x 2) (x 18 0)) (cdF (x 2) (x 18 0)) (x 3) (x 4) (x 11 0) (x 12 0) (x 13 0) (x 14 0) (x 15 0) (x 16 0) (x 17 0) (x 18 0) (x 19 0) (x 20 0) (x 21 0) (x 22 0) (y 31 0) (y 32 0) (y 33 0) (y 34 0) (y 35 0) (y 36 0) (y 37) (y 38) (y 39)) (cx_rS (rest := []) (As := [.int (iI ((x 0) (x 12 0)))]) hx hb hml hown hT hK hN hP hD hl.1 tw_790 k_MO_isMinus (c_MO_isMinus l D T H.size ((x 0) (x 12 0)) (by omega)) ⟨by decide, by decide⟩ ⟨rfl, rfl⟩ [] (by decide) rfl rfl rfl (Nat.le_of_ble_eq_true rfl) ⟨Nat.zero_le _, Nat.zero_le _⟩ d_MO_reset_45) hP hD hS hA [] [0, 1, 2, 3, 4, 5, 6, 7, 8, 9] [0, 1, 2, 3, 4, 5, 6, 7, 8, 9] rfl (wr := [(q 20, .inr (5, [.int (iI (y 31 0)), .int (iI ((n : Int))), .ref (q 21), .ref (q 22), .int (iI (x 11 0)), .int (iI (x 12 0)), .int (iI (x 13 0)), .int (iI (x 14 0)), .int (iI (x 15 0)), .int (iI (x 16 0)), .int (iI (x 21 0)), .int (iI (x 22 0)), .int (iI (y 32 0)), .int (iI (y 33 0)), .int (iI (y 34 0)), .int (iI (y 35 0)), .int (iI (y 36 0)), .ref (q 23), .int (iI (x 18 0)), .int (iI (x 17 0)), .ref (q 24), .int (iI (x 19 0)), .ref (q 25), .int (iI (x 20 0)), .ref (q 26), .ref (q 27), .ref (q 28), .ref (q 29)])), (q 21, .inl (T 1, 2000, .inl (fun jj : Nat => (iF (x 0)) (jj : Int)))), (q 22, .inl (T 2, 2000, .inl (fun jj : Nat => (iF (x 1)) (jj : Int)))), (q 23, .inl (T 1, 80, .inl (fun jj : Nat => (iF (mkF (x 2) (x 18 0))) (jj : Int)))), (q 24, .inl (T 1, 1600, .inl (fun jj : Nat => (iF (cdF (x 2) (x 18 0))) (jj : Int)))), (q 25, .inl (T 1, 5280, .inl (fun jj : Nat => (iF (x 3)) (jj : Int)))), (q 26, .inl (T 1, 1600, .inl (fun jj : Nat => (iF (x 4)) (jj : Int)))), (q 27, .inl (T 0, 2000, .inl (fun jj : Nat => (iF (y 37)) (jj : Int)))), (q 28, .inl (T 0, 2000, .inl (fun jj : Nat => (iF (y 38)) (jj : Int)))), (q 29, .inl (T 1, 2000, .inl (fun jj : Nat => (iF (y 39)) (jj : Int))))]) rfl (by decide) (by decide) (fun _ => rfl) (by decide) (fun r u_ H locs hq45 hP hD hS => ?_)
      rcases hq45 with ⟨rfl, h45⟩ | ⟨rfl, h45⟩
      · refine lv_aload_n hx hb d_MO_reset_48 rfl (lv_at hl 2 rfl) ?_
        refine va_get (D := D) (ci := 5) (v := .int (iI (y 32 0))) (C := R_MO) (T := T_MO) (N := 28) hx hb hT lays_MO hown hK hP 0 rfl rfl 12 (by decide) (hT _ tw_648) (fun _ h9 => h9) rfl d_MO_reset_49 ?_
        refine cx_bipush hx hb d_MO_reset_52 rfl ?_
        refine cx_icmp_ne (tgt := 61) hx hb d_MO_reset_54 rfl (by omega) (by omega) (fun h54 => ?_) (fun h54 => ?_)
        · refine cx_iconst hx hb d_MO_reset_61 ?_
          refine cx_icmp_eq (tgt := 69) hx hb d_MO_reset_62 rfl (by omega) (by omega) (fun h0 => absurd h0 (by decide)) (fun _ => ?_)
          refine cx_iconst hx hb d_MO_reset_65 ?_
          refine lv_goto (tgt := 70) hx hb d_MO_reset_66 rfl ?_
          exact J70 1 _ _ (by omega) hP hD hS
        · refine cx_iconst hx hb d_MO_reset_57 ?_
          refine lv_goto (tgt := 62) hx hb d_MO_reset_58 rfl ?_
          refine cx_icmp_eq (tgt := 69) hx hb d_MO_reset_62 rfl (by omega) (by omega) (fun _ => ?_) (fun h0 => absurd h0 (by decide))
          refine cx_iconst hx hb d_MO_reset_69 ?_
          exact J70 0 _ _ (by omega) hP hD hS
      · refine lv_aload_n hx hb d_MO_reset_48 rfl (lv_at hl 2 rfl) ?_
        refine va_get (D := D) (ci := 5) (v := .int (iI (y 32 0))) (C := R_MO) (T := T_MO) (N := 28) hx hb hT lays_MO hown hK hP 0 rfl rfl 12 (by decide) (hT _ tw_648) (fun _ h9 => h9) rfl d_MO_reset_49 ?_
        refine cx_bipush hx hb d_MO_reset_52 rfl ?_
        refine cx_icmp_ne (tgt := 61) hx hb d_MO_reset_54 rfl (by omega) (by omega) (fun h54 => ?_) (fun h54 => ?_)
        · refine cx_iconst hx hb d_MO_reset_61 ?_
          refine cx_icmp_eq (tgt := 69) hx hb d_MO_reset_62 rfl (by omega) (by omega) (fun _ => ?_) (fun h0 => absurd h0 (by decide))
          refine cx_iconst hx hb d_MO_reset_69 ?_
          exact J70 0 _ _ (by omega) hP hD hS
        · refine cx_iconst hx hb d_MO_reset_57 ?_
          refine lv_goto (tgt := 62) hx hb d_MO_reset_58 rfl ?_
          refine cx_icmp_eq (tgt := 69) hx hb d_MO_reset_62 rfl (by omega) (by omega) (fun h0 => absurd h0 (by decide)) (fun _ => ?_)
          refine cx_iconst hx hb d_MO_reset_65 ?_
          refine lv_goto (tgt := 70) hx hb d_MO_reset_66 rfl ?_
          exact J70 1 _ _ (by omega) hP hD hS
    · refine cx_iconst hx hb d_MO_reset_34 ?_
      exact hret ((x, y) : SX × SX) (⟨pst_of (by unfold calS; rw [← fld_3000 (by omega), ← hk]; unfold calK; rw [if_neg (by omega), ← hp2]; unfold calP; rw [if_pos (by omega)]) hX, ⟨rfl, rfl⟩⟩) hP hD hS d_MO_reset_35
  · refine cx_iconst hx hb d_MO_reset_16 ?_
    refine lv_goto (tgt := 29) hx hb d_MO_reset_17 rfl ?_
    refine lv_istore_n (lv' := [(2, .int (iI (0))), (1, .int (iI (k))), (0, .ref (q 20))]) hx hb d_MO_reset_29 rfl hl (by decide) rfl (fun ls hl => ?_)
    refine lv_iload_n hx hb d_MO_reset_30 rfl (lv_at hl 0 rfl) ?_
    refine cx_if_ne (tgt := 36) hx hb d_MO_reset_31 rfl (by omega) (fun h0 => absurd h0 (by decide)) (fun _ => ?_)
    refine cx_iconst hx hb d_MO_reset_34 ?_
    exact hret ((x, y) : SX × SX) (⟨pst_of (by unfold calS; rw [← fld_3000 (by omega), ← hk]; unfold calK; rw [if_pos (by omega)]) hX, ⟨rfl, rfl⟩⟩) hP hD hS d_MO_reset_35
