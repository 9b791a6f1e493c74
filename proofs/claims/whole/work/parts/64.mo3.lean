/-! the reference: compare, load, cards and rows -/
theorem sgn_0 {y z : Int} : (sgn y z = 0) = (y = z) := by
  unfold sgn
  apply propext
  constructor
  · intro h
    split at h
    · cases h
    · split at h
      · assumption
      · cases h
  · intro h
    rw [if_neg (by omega), if_pos h]
theorem sgn_1 {y z : Int} (h : z < y) : sgn y z = 1 := by unfold sgn; rw [if_neg (by omega), if_neg (by omega)]
theorem sgn_m {y z : Int} (h : y < z) : sgn y z = -1 := by unfold sgn; rw [if_pos h]
theorem fld_congr {n : Int} {mk : Int → Int} {u m1 m2 : Int} : ∀ (f : Nat) (j : Int), (∀ i, j ≤ i → i ≤ u + 1 → (i = m1 ↔ i = m2)) → fld n mk u m1 f j = fld n mk u m2 f j
  | 0, _, _ => rfl
  | f + 1, j, h => by
    rw [fld, fld, fld_congr f (j + 1) (fun i a b => h i (by omega) b)]
    by_cases h1 : 0 ≤ u - j + 1 ∧ u - j + 1 < n
    · rw [if_pos h1, if_pos h1]
      have h2 := h j (by omega) (by omega)
      by_cases h3 : j = m1 ∨ mk (u - j + 1) = 1
      · rw [if_pos h3, if_pos (by rcases h3 with a | a; exact Or.inl (h2.mp a); exact Or.inr a)]
      · rw [if_neg h3, if_neg (by rintro (a | a); exact h3 (Or.inl (h2.mpr a)); exact h3 (Or.inr a))]
    · rw [if_neg h1, if_neg h1]
theorem fld_3000 {n : Int} {mk : Int → Int} {u : Int} (hn : n ≤ 2000) : fld n mk u 3000 2001 1 = fld n mk u (n + 1) 2001 1 := by
  by_cases h : 0 ≤ u ∧ u < n
  · exact fld_congr 2001 1 (fun i a b => by omega)
  · rw [fld_no h, fld_no h]
theorem spn_cpyC {f : Int → Int} {a b k : Int} : spn f b k (fun i => f (a - i)) = cpy f (a - k + 1) (b - k + 1) k := by
  funext j
  unfold spn cpy
  by_cases h : b - k < j ∧ j ≤ b
  · rw [if_pos h, if_pos (by omega)]
    show f (a - (b - j)) = _
    congr 1; omega
  · rw [if_neg h, if_neg (by omega)]
theorem spn_cpyM {n : Int} {mk : Int → Int} {a b k : Int} (hk : k = fld n mk a 3000 2001 1) (hm : ∀ j, mk j = 0 ∨ mk j = 1) (hn : n ≤ 2000) : spn mk b k (fun i => if i = k - 1 then 1 else 0) = cpy mk (a - k + 1) (b - k + 1) k := by
  funext j
  unfold spn cpy
  by_cases h : b - k < j ∧ j ≤ b
  · rw [if_pos h, if_pos (by omega)]
    show (if b - j = k - 1 then (1 : Int) else 0) = mk (a - k + 1 + (j - (b - k + 1)))
    rw [show a - k + 1 + (j - (b - k + 1)) = a - (b - j) by omega]
    rcases fld_all (n := n) (mk := mk) (u := a) (most := 3000) 2001 1 (by omega) with h1 | ⟨e1, e2, e3, e4⟩
    · rw [← hk] at h1; omega
    · rw [← hk] at e1 e2 e3 e4
      by_cases h5 : b - j = k - 1
      · rw [if_pos h5]
        rcases e3 with e3 | e3
        · omega
        · rw [← e3]; congr 1; omega
      · rw [if_neg h5]
        have h6 := (e4 (b - j + 1) (by omega) (by omega)).2
        rw [show a - (b - j + 1) + 1 = a - (b - j) by omega] at h6
        have h7 := hm (a - (b - j))
        omega
  · rw [if_neg h, if_neg (by omega)]
theorem cdF_in {cf : Int → Int} {c : Int} (h : okF cf c) (z : Int) : 0 ≤ cdF cf c z ∧ cdF cf c z < 64 := by
  unfold cdF
  split
  · exact h.1 z
  · omega
theorem up_swap {k j : Nat} (x : SX) (f g : Int → Int) (h : k ≠ j) : up (up x k f) j g = up (up x j g) k f := by
  funext i
  unfold up
  by_cases h1 : i = j
  · rw [if_pos h1, if_neg (by omega), if_pos h1]
  · rw [if_neg h1]
    by_cases h2 : i = k
    · rw [if_pos h2, if_pos h2]
    · rw [if_neg h2, if_neg h2, if_neg h1]
theorem up_swap3 (x : SX) (f g h : Int → Int) : up (up (up x 16 f) 17 g) 13 h = up (up (up x 13 h) 16 f) 17 g := by
  rw [up_swap _ g h (by decide), up_swap _ f h (by decide)]

set_option maxHeartbeats 4000000 in
set_option maxRecDepth 100000 in
theorem c_MO_compare (l : Launch) (D : va_G) (T : Nat → ClassId) (sz : Nat) (q : Nat → Nat) (n : Nat) (hn : 400 ≤ n ∧ n ≤ 2000) (x y : SX) (hX : okX x) : MI l y_MO_compare (wY y_MO_compare b_MO_compare 5 (some .int)) (rmK 2) D vwCl (tyL T) nwL sz [.ref (q 20)] (moW T q n (x 0) (x 1) (mkF (x 2) (x 18 0)) (cdF (x 2) (x 18 0)) (x 3) (x 4) (x 11 0) (x 12 0) (x 13 0) (x 14 0) (x 15 0) (x 16 0) (x 17 0) (x 18 0) (x 19 0) (x 20 0) (x 21 0) (x 22 0) (y 31 0) (y 32 0) (y 33 0) (y 34 0) (y 35 0) (y 36 0) (y 37) (y 38) (y 39)) (fun r (u : SX × SX) => pst (cmpS n x) r u.1 ∧ (u.2 31 = y 31 ∧ u.2 33 = y 33)) (fun (u : SX × SX) => moX T q n u.1 u.2) := by
  refine cx_inI (by decide) rfl (Nat.le_of_ble_eq_true rfl) ?_
  intro p e s m below meth cd ls A Q hx hb hml hT hown hret hP hK hD hN hS hA hl
  have hown : s.vm.findClass R_MO = some m.cls := hown
  have hl : lv_has ls 5 [(0, .ref (q 20))] := hl
  have hC := hX.1
  have hR0 := hX.2.1
  have hF := hX.2.2
  unfold okR at hR0
  refine lv_aload_n hx hb d_MO_compare_0 rfl (lv_at hl 0 rfl) ?_
  refine cx_cI (ws2 := fun _ => moW T q n (x 0) (x 1) (mkF (x 2) (x 18 0)) (cdF (x 2) (x 18 0)) (x 3) (x 4) (x 11 0) (x 12 0) (x 13 0) (x 14 0) (x 15 0) (x 16 0) (x 17 0) (x 18 0) (x 19 0) (x 20 0) (x 21 0) (x 22 0) (y 31 0) (y 32 0) (y 33 0) (y 34 0) (y 35 0) (y 36 0) (y 37) (y 38) (y 39)) (cx_rV (q0 := 0) (ci := 5) (rest := []) (As := []) hx hb hml hown hT hK hN hP hD hl.1 tw_819 k_MO_both (c_MO_both l D T s.heap.size q n hn x y hX ) ⟨by decide, by decide⟩ ⟨rfl, rfl⟩ [0, 1, 2, 3, 4, 5, 6, 7, 8, 9] (by decide) rfl rfl rfl rfl rfl (Nat.le_of_ble_eq_true rfl) ⟨Nat.zero_le _, Nat.zero_le _⟩ d_MO_compare_1) hP hD hS hA [0, 1, 2, 3, 4, 5, 6, 7, 8, 9] [] [0, 1, 2, 3, 4, 5, 6, 7, 8, 9] rfl (wr := []) rfl (by decide) (by decide) (fun _ => rfl) (by decide) (fun r u_ H locs hq1 hP hD hS => ?_)
  subst hq1
  refine cx_eq (y := iI (cmn n (x 1) (x 12 0) (x 13 0) 2001 1)) rfl ?_
  refine lv_istore_n (lv' := [(1, .int (iI (cmn n (x 1) (x 12 0) (x 13 0) 2001 1))), (0, .ref (q 20))]) hx hb d_MO_compare_4 rfl hl (by decide) rfl (fun ls hl => ?_)
  obtain ⟨k, hk⟩ : ∃ z, z = cmn n (x 1) (x 12 0) (x 13 0) 2001 1 := ⟨_, rfl⟩
  rw [← hk] at hl
  have hk1 := cmn_in hk
  refine lv_iload_n hx hb d_MO_compare_5 rfl (lv_at hl 0 rfl) ?_
  refine cx_if_ne (tgt := 11) hx hb d_MO_compare_6 rfl (by omega) (fun h6 => ?_) (fun h6 => ?_)
  · refine lv_aload_n hx hb d_MO_compare_11 rfl (lv_at hl 1 rfl) ?_
    refine cx_iconst hx hb d_MO_compare_12 ?_
    refine va_put (D := D) (ci := 5) (v := .int (iI (0))) (ty := .int) (C := R_MO) (T := T_MO) (N := 28) hx hb hT lays_MO t_MO t_MO_ok n_MO hown hK hP hD hS 0 rfl rfl 7 (by decide) (hT _ tw_643) (fun _ h9 => h9) rfl (by decide +kernel) rfl rfl (Nat.le_of_ble_eq_true rfl) d_MO_compare_13 (fun H locs hP hD hS => ?_)
    have hP : va_P D vwCl (moW T q n (x 0) (x 1) (mkF (x 2) (x 18 0)) (cdF (x 2) (x 18 0)) (x 3) (x 4) (x 11 0) (x 12 0) (x 13 0) 0 (x 15 0) (x 16 0) (x 17 0) (x 18 0) (x 19 0) (x 20 0) (x 21 0) (x 22 0) (y 31 0) (y 32 0) (y 33 0) (y 34 0) (y 35 0) (y 36 0) (y 37) (y 38) (y 39)) H := hP
    have hD : va_D A (moW T q n (x 0) (x 1) (mkF (x 2) (x 18 0)) (cdF (x 2) (x 18 0)) (x 3) (x 4) (x 11 0) (x 12 0) (x 13 0) 0 (x 15 0) (x 16 0) (x 17 0) (x 18 0) (x 19 0) (x 20 0) (x 21 0) (x 22 0) (y 31 0) (y 32 0) (y 33 0) (y 34 0) (y 35 0) (y 36 0) (y 37) (y 38) (y 39)) := hD
    refine cx_iconst hx hb d_MO_compare_16 ?_
    refine lv_istore_n (lv' := [(2, .int (iI (0))), (1, .int (iI (k))), (0, .ref (q 20))]) hx hb d_MO_compare_17 rfl hl (by decide) rfl (fun ls hl => ?_)
    have L1 : ∀ (k_ : Nat) (j : Int) (t : Int) (H : Heap) (locs : List Loc) (ls : Array Slot), (0 ≤ j ∧ j ≤ k ∧ k - j < k_) → (t = ord (x 0) (x 12 0) (x 13 0) j.toNat) → va_P D vwCl (moW T q n (x 0) (x 1) (mkF (x 2) (x 18 0)) (cdF (x 2) (x 18 0)) (x 3) (x 4) (x 11 0) (x 12 0) (x 13 0) t (x 15 0) (x 16 0) (x 17 0) (x 18 0) (x 19 0) (x 20 0) (x 21 0) (x 22 0) (y 31 0) (y 32 0) (y 33 0) (y 34 0) (y 35 0) (y 36 0) (y 37) (y 38) (y 39)) H → va_D A (moW T q n (x 0) (x 1) (mkF (x 2) (x 18 0)) (cdF (x 2) (x 18 0)) (x 3) (x 4) (x 11 0) (x 12 0) (x 13 0) t (x 15 0) (x 16 0) (x 17 0) (x 18 0) (x 19 0) (x 20 0) (x 21 0) (x 22 0) (y 31 0) (y 32 0) (y 33 0) (y 34 0) (y 35 0) (y 36 0) (y 37) (y 38) (y 39)) → va_S A s.heap H locs → lv_has ls 5 [(2, .int (iI (j))), (1, .int (iI (k))), (0, .ref (q 20))] → W p l e (rmK 2) s m ([.ref (q 20)] : List Value).toArray below meth cd H locs 0 0 Q (F0 m 18 ls []) := by
      intro k_
      induction k_ with
      | zero => intro j t H locs ls hj hv _ _ _ _; exact absurd hj (by omega)
      | succ k_ ih1 =>
        intro j t H locs ls hj hv hP hD hS hl
        refine lv_iload_n hx hb d_MO_compare_18 rfl (lv_at hl 0 rfl) ?_
        refine lv_iload_n hx hb d_MO_compare_19 rfl (lv_at hl 1 rfl) ?_
        refine cx_icmp_ge (tgt := 88) hx hb d_MO_compare_20 rfl (by omega) (by omega) (fun h20 => ?_) (fun h20 => ?_)
        · obtain rfl : j = k := by omega
          have hod := ord_in (x 0) (x 12 0) (x 13 0) j.toNat
          rw [← hv] at hod
          refine lv_aload_n hx hb d_MO_compare_88 rfl (lv_at hl 2 rfl) ?_
          refine lv_aload_n hx hb d_MO_compare_89 rfl (lv_at hl 2 rfl) ?_
          refine va_get (D := D) (ci := 5) (v := .ref (q 22)) (C := R_MO) (T := T_MO) (N := 28) hx hb hT lays_MO hown hK hP 0 rfl rfl 3 (by decide) (hT _ tw_639) (fun _ h9 => h9) rfl d_MO_compare_90 ?_
          refine lv_aload_n hx hb d_MO_compare_93 rfl (lv_at hl 2 rfl) ?_
          refine va_get (D := D) (ci := 5) (v := .int (iI (x 13 0))) (C := R_MO) (T := T_MO) (N := 28) hx hb hT lays_MO hown hK hP 0 rfl rfl 6 (by decide) (hT _ tw_642) (fun _ h9 => h9) rfl d_MO_compare_94 ?_
          refine lv_iload_n hx hb d_MO_compare_97 rfl (lv_at hl 1 rfl) ?_
          refine cx_isub hx hb d_MO_compare_98 ?_
          refine cx_iconst hx hb d_MO_compare_99 ?_
          refine cx_iadd hx hb d_MO_compare_100 ?_
          refine cx_zald (g := iF (x 1)) hx hb hK hP 2 2 rfl rfl (by omega) (by omega) d_MO_compare_101 ?_
          have hm101 := hC.2 (((x 13 0) - j) + 1)
          refine cx_if_eq (tgt := 112) hx hb d_MO_compare_102 rfl (by omega) (fun h102 => ?_) (fun h102 => ?_)
          · refine cx_iconst hx hb d_MO_compare_112 ?_
            refine va_put (D := D) (ci := 5) (v := .int (iI (1))) (ty := .int) (C := R_MO) (T := T_MO) (N := 28) hx hb hT lays_MO t_MO t_MO_ok n_MO hown hK hP hD hS 0 rfl rfl 7 (by decide) (hT _ tw_643) (fun _ h9 => h9) rfl (by decide +kernel) rfl rfl (Nat.le_of_ble_eq_true rfl) d_MO_compare_113 (fun H locs hP hD hS => ?_)
            have hP : va_P D vwCl (moW T q n (x 0) (x 1) (mkF (x 2) (x 18 0)) (cdF (x 2) (x 18 0)) (x 3) (x 4) (x 11 0) (x 12 0) (x 13 0) 1 (x 15 0) (x 16 0) (x 17 0) (x 18 0) (x 19 0) (x 20 0) (x 21 0) (x 22 0) (y 31 0) (y 32 0) (y 33 0) (y 34 0) (y 35 0) (y 36 0) (y 37) (y 38) (y 39)) H := hP
            have hD : va_D A (moW T q n (x 0) (x 1) (mkF (x 2) (x 18 0)) (cdF (x 2) (x 18 0)) (x 3) (x 4) (x 11 0) (x 12 0) (x 13 0) 1 (x 15 0) (x 16 0) (x 17 0) (x 18 0) (x 19 0) (x 20 0) (x 21 0) (x 22 0) (y 31 0) (y 32 0) (y 33 0) (y 34 0) (y 35 0) (y 36 0) (y 37) (y 38) (y 39)) := hD
            refine lv_aload_n hx hb d_MO_compare_116 rfl (lv_at hl 2 rfl) ?_
            refine lv_dup hx hb d_MO_compare_117 rfl ?_
            refine va_get (D := D) (ci := 5) (v := .int (iI (x 12 0))) (C := R_MO) (T := T_MO) (N := 28) hx hb hT lays_MO hown hK hP 0 rfl rfl 5 (by decide) (hT _ tw_641) (fun _ h9 => h9) rfl d_MO_compare_118 ?_
            refine lv_iload_n hx hb d_MO_compare_121 rfl (lv_at hl 1 rfl) ?_
            refine cx_isub hx hb d_MO_compare_122 ?_
            refine va_put (D := D) (ci := 5) (v := .int (iI ((x 12 0) - j))) (ty := .int) (C := R_MO) (T := T_MO) (N := 28) hx hb hT lays_MO t_MO t_MO_ok n_MO hown hK hP hD hS 0 rfl rfl 5 (by decide) (hT _ tw_641) (fun _ h9 => h9) rfl (by decide +kernel) rfl rfl (Nat.le_of_ble_eq_true rfl) d_MO_compare_123 (fun H locs hP hD hS => ?_)
            have hP : va_P D vwCl (moW T q n (x 0) (x 1) (mkF (x 2) (x 18 0)) (cdF (x 2) (x 18 0)) (x 3) (x 4) (x 11 0) ((x 12 0) - j) (x 13 0) 1 (x 15 0) (x 16 0) (x 17 0) (x 18 0) (x 19 0) (x 20 0) (x 21 0) (x 22 0) (y 31 0) (y 32 0) (y 33 0) (y 34 0) (y 35 0) (y 36 0) (y 37) (y 38) (y 39)) H := hP
            have hD : va_D A (moW T q n (x 0) (x 1) (mkF (x 2) (x 18 0)) (cdF (x 2) (x 18 0)) (x 3) (x 4) (x 11 0) ((x 12 0) - j) (x 13 0) 1 (x 15 0) (x 16 0) (x 17 0) (x 18 0) (x 19 0) (x 20 0) (x 21 0) (x 22 0) (y 31 0) (y 32 0) (y 33 0) (y 34 0) (y 35 0) (y 36 0) (y 37) (y 38) (y 39)) := hD
            refine lv_aload_n hx hb d_MO_compare_126 rfl (lv_at hl 2 rfl) ?_
            refine lv_dup hx hb d_MO_compare_127 rfl ?_
            refine va_get (D := D) (ci := 5) (v := .int (iI (x 13 0))) (C := R_MO) (T := T_MO) (N := 28) hx hb hT lays_MO hown hK hP 0 rfl rfl 6 (by decide) (hT _ tw_642) (fun _ h9 => h9) rfl d_MO_compare_128 ?_
            refine lv_iload_n hx hb d_MO_compare_131 rfl (lv_at hl 1 rfl) ?_
            refine cx_isub hx hb d_MO_compare_132 ?_
            refine va_put (D := D) (ci := 5) (v := .int (iI ((x 13 0) - j))) (ty := .int) (C := R_MO) (T := T_MO) (N := 28) hx hb hT lays_MO t_MO t_MO_ok n_MO hown hK hP hD hS 0 rfl rfl 6 (by decide) (hT _ tw_642) (fun _ h9 => h9) rfl (by decide +kernel) rfl rfl (Nat.le_of_ble_eq_true rfl) d_MO_compare_133 (fun H locs hP hD hS => ?_)
            have hP : va_P D vwCl (moW T q n (x 0) (x 1) (mkF (x 2) (x 18 0)) (cdF (x 2) (x 18 0)) (x 3) (x 4) (x 11 0) ((x 12 0) - j) ((x 13 0) - j) 1 (x 15 0) (x 16 0) (x 17 0) (x 18 0) (x 19 0) (x 20 0) (x 21 0) (x 22 0) (y 31 0) (y 32 0) (y 33 0) (y 34 0) (y 35 0) (y 36 0) (y 37) (y 38) (y 39)) H := hP
            have hD : va_D A (moW T q n (x 0) (x 1) (mkF (x 2) (x 18 0)) (cdF (x 2) (x 18 0)) (x 3) (x 4) (x 11 0) ((x 12 0) - j) ((x 13 0) - j) 1 (x 15 0) (x 16 0) (x 17 0) (x 18 0) (x 19 0) (x 20 0) (x 21 0) (x 22 0) (y 31 0) (y 32 0) (y 33 0) (y 34 0) (y 35 0) (y 36 0) (y 37) (y 38) (y 39)) := hD
            refine cx_iconst hx hb d_MO_compare_136 ?_
            exact hret ((up (up (up x 12 (cst ((x 12 0) - j))) 13 (cst ((x 13 0) - j))) 14 (cst 1), y) : SX × SX) (⟨pst_of (by unfold cmpS cmpK; rw [← hk, if_neg (by omega), if_neg (by omega)]) (show okX (up (up (up x 12 (cst ((x 12 0) - j))) 13 (cst ((x 13 0) - j))) 14 (cst 1)) from ⟨hX.1, (show okR (x 11 0) ((x 12 0) - j) ((x 13 0) - j) 1 (x 15 0) (x 16 0) (x 17 0) (x 18 0) (x 19 0) (x 20 0) by have h8 := hX.2.1; unfold okR at h8 ⊢; omega), hX.2.2⟩), ⟨rfl, rfl⟩⟩) hP hD hS d_MO_compare_137
          · refine lv_aload_n hx hb d_MO_compare_105 rfl (lv_at hl 2 rfl) ?_
            refine va_get (D := D) (ci := 5) (v := .int (iI (t))) (C := R_MO) (T := T_MO) (N := 28) hx hb hT lays_MO hown hK hP 0 rfl rfl 7 (by decide) (hT _ tw_643) (fun _ h9 => h9) rfl d_MO_compare_106 ?_
            refine lv_goto (tgt := 113) hx hb d_MO_compare_109 rfl ?_
            refine va_put (D := D) (ci := 5) (v := .int (iI (t))) (ty := .int) (C := R_MO) (T := T_MO) (N := 28) hx hb hT lays_MO t_MO t_MO_ok n_MO hown hK hP hD hS 0 rfl rfl 7 (by decide) (hT _ tw_643) (fun _ h9 => h9) rfl (by decide +kernel) rfl rfl (Nat.le_of_ble_eq_true rfl) d_MO_compare_113 (fun H locs hP hD hS => ?_)
            have hP : va_P D vwCl (moW T q n (x 0) (x 1) (mkF (x 2) (x 18 0)) (cdF (x 2) (x 18 0)) (x 3) (x 4) (x 11 0) (x 12 0) (x 13 0) t (x 15 0) (x 16 0) (x 17 0) (x 18 0) (x 19 0) (x 20 0) (x 21 0) (x 22 0) (y 31 0) (y 32 0) (y 33 0) (y 34 0) (y 35 0) (y 36 0) (y 37) (y 38) (y 39)) H := hP
            have hD : va_D A (moW T q n (x 0) (x 1) (mkF (x 2) (x 18 0)) (cdF (x 2) (x 18 0)) (x 3) (x 4) (x 11 0) (x 12 0) (x 13 0) t (x 15 0) (x 16 0) (x 17 0) (x 18 0) (x 19 0) (x 20 0) (x 21 0) (x 22 0) (y 31 0) (y 32 0) (y 33 0) (y 34 0) (y 35 0) (y 36 0) (y 37) (y 38) (y 39)) := hD
            refine lv_aload_n hx hb d_MO_compare_116 rfl (lv_at hl 2 rfl) ?_
            refine lv_dup hx hb d_MO_compare_117 rfl ?_
            refine va_get (D := D) (ci := 5) (v := .int (iI (x 12 0))) (C := R_MO) (T := T_MO) (N := 28) hx hb hT lays_MO hown hK hP 0 rfl rfl 5 (by decide) (hT _ tw_641) (fun _ h9 => h9) rfl d_MO_compare_118 ?_
            refine lv_iload_n hx hb d_MO_compare_121 rfl (lv_at hl 1 rfl) ?_
            refine cx_isub hx hb d_MO_compare_122 ?_
            refine va_put (D := D) (ci := 5) (v := .int (iI ((x 12 0) - j))) (ty := .int) (C := R_MO) (T := T_MO) (N := 28) hx hb hT lays_MO t_MO t_MO_ok n_MO hown hK hP hD hS 0 rfl rfl 5 (by decide) (hT _ tw_641) (fun _ h9 => h9) rfl (by decide +kernel) rfl rfl (Nat.le_of_ble_eq_true rfl) d_MO_compare_123 (fun H locs hP hD hS => ?_)
            have hP : va_P D vwCl (moW T q n (x 0) (x 1) (mkF (x 2) (x 18 0)) (cdF (x 2) (x 18 0)) (x 3) (x 4) (x 11 0) ((x 12 0) - j) (x 13 0) t (x 15 0) (x 16 0) (x 17 0) (x 18 0) (x 19 0) (x 20 0) (x 21 0) (x 22 0) (y 31 0) (y 32 0) (y 33 0) (y 34 0) (y 35 0) (y 36 0) (y 37) (y 38) (y 39)) H := hP
            have hD : va_D A (moW T q n (x 0) (x 1) (mkF (x 2) (x 18 0)) (cdF (x 2) (x 18 0)) (x 3) (x 4) (x 11 0) ((x 12 0) - j) (x 13 0) t (x 15 0) (x 16 0) (x 17 0) (x 18 0) (x 19 0) (x 20 0) (x 21 0) (x 22 0) (y 31 0) (y 32 0) (y 33 0) (y 34 0) (y 35 0) (y 36 0) (y 37) (y 38) (y 39)) := hD
            refine lv_aload_n hx hb d_MO_compare_126 rfl (lv_at hl 2 rfl) ?_
            refine lv_dup hx hb d_MO_compare_127 rfl ?_
            refine va_get (D := D) (ci := 5) (v := .int (iI (x 13 0))) (C := R_MO) (T := T_MO) (N := 28) hx hb hT lays_MO hown hK hP 0 rfl rfl 6 (by decide) (hT _ tw_642) (fun _ h9 => h9) rfl d_MO_compare_128 ?_
            refine lv_iload_n hx hb d_MO_compare_131 rfl (lv_at hl 1 rfl) ?_
            refine cx_isub hx hb d_MO_compare_132 ?_
            refine va_put (D := D) (ci := 5) (v := .int (iI ((x 13 0) - j))) (ty := .int) (C := R_MO) (T := T_MO) (N := 28) hx hb hT lays_MO t_MO t_MO_ok n_MO hown hK hP hD hS 0 rfl rfl 6 (by decide) (hT _ tw_642) (fun _ h9 => h9) rfl (by decide +kernel) rfl rfl (Nat.le_of_ble_eq_true rfl) d_MO_compare_133 (fun H locs hP hD hS => ?_)
            have hP : va_P D vwCl (moW T q n (x 0) (x 1) (mkF (x 2) (x 18 0)) (cdF (x 2) (x 18 0)) (x 3) (x 4) (x 11 0) ((x 12 0) - j) ((x 13 0) - j) t (x 15 0) (x 16 0) (x 17 0) (x 18 0) (x 19 0) (x 20 0) (x 21 0) (x 22 0) (y 31 0) (y 32 0) (y 33 0) (y 34 0) (y 35 0) (y 36 0) (y 37) (y 38) (y 39)) H := hP
            have hD : va_D A (moW T q n (x 0) (x 1) (mkF (x 2) (x 18 0)) (cdF (x 2) (x 18 0)) (x 3) (x 4) (x 11 0) ((x 12 0) - j) ((x 13 0) - j) t (x 15 0) (x 16 0) (x 17 0) (x 18 0) (x 19 0) (x 20 0) (x 21 0) (x 22 0) (y 31 0) (y 32 0) (y 33 0) (y 34 0) (y 35 0) (y 36 0) (y 37) (y 38) (y 39)) := hD
            refine cx_iconst hx hb d_MO_compare_136 ?_
            exact hret ((up (up (up x 12 (cst ((x 12 0) - j))) 13 (cst ((x 13 0) - j))) 14 (cst t), y) : SX × SX) (⟨pst_of (by unfold cmpS cmpK; rw [← hk, if_neg (by omega), if_pos (by omega), hv]) (show okX (up (up (up x 12 (cst ((x 12 0) - j))) 13 (cst ((x 13 0) - j))) 14 (cst t)) from ⟨hX.1, (show okR (x 11 0) ((x 12 0) - j) ((x 13 0) - j) t (x 15 0) (x 16 0) (x 17 0) (x 18 0) (x 19 0) (x 20 0) by have h8 := hX.2.1; unfold okR at h8 ⊢; omega), hX.2.2⟩), ⟨rfl, rfl⟩⟩) hP hD hS d_MO_compare_137
        · refine lv_aload_n hx hb d_MO_compare_23 rfl (lv_at hl 2 rfl) ?_
          refine va_get (D := D) (ci := 5) (v := .ref (q 21)) (C := R_MO) (T := T_MO) (N := 28) hx hb hT lays_MO hown hK hP 0 rfl rfl 2 (by decide) (hT _ tw_638) (fun _ h9 => h9) rfl d_MO_compare_24 ?_
          refine lv_aload_n hx hb d_MO_compare_27 rfl (lv_at hl 2 rfl) ?_
          refine va_get (D := D) (ci := 5) (v := .int (iI (x 12 0))) (C := R_MO) (T := T_MO) (N := 28) hx hb hT lays_MO hown hK hP 0 rfl rfl 5 (by decide) (hT _ tw_641) (fun _ h9 => h9) rfl d_MO_compare_28 ?_
          refine lv_iload_n hx hb d_MO_compare_31 rfl (lv_at hl 0 rfl) ?_
          refine cx_isub hx hb d_MO_compare_32 ?_
          refine cx_bald (g := iF (x 0)) hx hb hK hP 1 1 rfl rfl (by omega) (by omega) d_MO_compare_33 ?_
          have hc33 := hC.1 ((x 12 0) - j)
          refine cx_cI (ws2 := fun _ => moW T q n (x 0) (x 1) (mkF (x 2) (x 18 0)) (cdF (x 2) (x 18 0)) (x 3) (x 4) (x 11 0) (x 12 0) (x 13 0) t (x 15 0) (x 16 0) (x 17 0) (x 18 0) (x 19 0) (x 20 0) (x 21 0) (x 22 0) (y 31 0) (y 32 0) (y 33 0) (y 34 0) (y 35 0) (y 36 0) (y 37) (y 38) (y 39)) (cx_rS (rest := []) (As := [.int (iI ((x 0) ((x 12 0) - j)))]) hx hb hml hown hT hK hN hP hD hl.1 tw_835 k_MO_rank (c_MO_rank l D T H.size ((x 0) ((x 12 0) - j)) (by omega)) ⟨by decide, by decide⟩ ⟨rfl, rfl⟩ [] (by decide) rfl rfl rfl (Nat.le_of_ble_eq_true rfl) ⟨Nat.zero_le _, Nat.zero_le _⟩ d_MO_compare_34) hP hD hS hA [] [0, 1, 2, 3, 4, 5, 6, 7, 8, 9] [0, 1, 2, 3, 4, 5, 6, 7, 8, 9] rfl (wr := [(q 20, .inr (5, [.int (iI (y 31 0)), .int (iI ((n : Int))), .ref (q 21), .ref (q 22), .int (iI (x 11 0)), .int (iI (x 12 0)), .int (iI (x 13 0)), .int (iI (t)), .int (iI (x 15 0)), .int (iI (x 16 0)), .int (iI (x 21 0)), .int (iI (x 22 0)), .int (iI (y 32 0)), .int (iI (y 33 0)), .int (iI (y 34 0)), .int (iI (y 35 0)), .int (iI (y 36 0)), .ref (q 23), .int (iI (x 18 0)), .int (iI (x 17 0)), .ref (q 24), .int (iI (x 19 0)), .ref (q 25), .int (iI (x 20 0)), .ref (q 26), .ref (q 27), .ref (q 28), .ref (q 29)])), (q 21, .inl (T 1, 2000, .inl (fun jj : Nat => (iF (x 0)) (jj : Int)))), (q 22, .inl (T 2, 2000, .inl (fun jj : Nat => (iF (x 1)) (jj : Int)))), (q 23, .inl (T 1, 80, .inl (fun jj : Nat => (iF (mkF (x 2) (x 18 0))) (jj : Int)))), (q 24, .inl (T 1, 1600, .inl (fun jj : Nat => (iF (cdF (x 2) (x 18 0))) (jj : Int)))), (q 25, .inl (T 1, 5280, .inl (fun jj : Nat => (iF (x 3)) (jj : Int)))), (q 26, .inl (T 1, 1600, .inl (fun jj : Nat => (iF (x 4)) (jj : Int)))), (q 27, .inl (T 0, 2000, .inl (fun jj : Nat => (iF (y 37)) (jj : Int)))), (q 28, .inl (T 0, 2000, .inl (fun jj : Nat => (iF (y 38)) (jj : Int)))), (q 29, .inl (T 1, 2000, .inl (fun jj : Nat => (iF (y 39)) (jj : Int))))]) rfl (by decide) (by decide) (fun _ => rfl) (by decide) (fun r u_ H locs hq34 hP hD hS => ?_)
          subst hq34
          refine lv_istore_n (lv' := [(3, .int (iI (rnk ((x 0) ((x 12 0) - j))))), (2, .int (iI (j))), (1, .int (iI (k))), (0, .ref (q 20))]) hx hb d_MO_compare_37 rfl hl (by decide) rfl (fun ls hl => ?_)
          have h4 := rnk_in hc33
          refine lv_aload_n hx hb d_MO_compare_38 rfl (lv_at hl 3 rfl) ?_
          refine va_get (D := D) (ci := 5) (v := .ref (q 21)) (C := R_MO) (T := T_MO) (N := 28) hx hb hT lays_MO hown hK hP 0 rfl rfl 2 (by decide) (hT _ tw_638) (fun _ h9 => h9) rfl d_MO_compare_39 ?_
          refine lv_aload_n hx hb d_MO_compare_42 rfl (lv_at hl 3 rfl) ?_
          refine va_get (D := D) (ci := 5) (v := .int (iI (x 13 0))) (C := R_MO) (T := T_MO) (N := 28) hx hb hT lays_MO hown hK hP 0 rfl rfl 6 (by decide) (hT _ tw_642) (fun _ h9 => h9) rfl d_MO_compare_43 ?_
          refine lv_iload_n hx hb d_MO_compare_46 rfl (lv_at hl 1 rfl) ?_
          refine cx_isub hx hb d_MO_compare_47 ?_
          refine cx_bald (g := iF (x 0)) hx hb hK hP 1 1 rfl rfl (by omega) (by omega) d_MO_compare_48 ?_
          have hc48 := hC.1 ((x 13 0) - j)
          refine cx_cI (ws2 := fun _ => moW T q n (x 0) (x 1) (mkF (x 2) (x 18 0)) (cdF (x 2) (x 18 0)) (x 3) (x 4) (x 11 0) (x 12 0) (x 13 0) t (x 15 0) (x 16 0) (x 17 0) (x 18 0) (x 19 0) (x 20 0) (x 21 0) (x 22 0) (y 31 0) (y 32 0) (y 33 0) (y 34 0) (y 35 0) (y 36 0) (y 37) (y 38) (y 39)) (cx_rS (rest := []) (As := [.int (iI ((x 0) ((x 13 0) - j)))]) hx hb hml hown hT hK hN hP hD hl.1 tw_835 k_MO_rank (c_MO_rank l D T H.size ((x 0) ((x 13 0) - j)) (by omega)) ⟨by decide, by decide⟩ ⟨rfl, rfl⟩ [] (by decide) rfl rfl rfl (Nat.le_of_ble_eq_true rfl) ⟨Nat.zero_le _, Nat.zero_le _⟩ d_MO_compare_49) hP hD hS hA [] [0, 1, 2, 3, 4, 5, 6, 7, 8, 9] [0, 1, 2, 3, 4, 5, 6, 7, 8, 9] rfl (wr := [(q 20, .inr (5, [.int (iI (y 31 0)), .int (iI ((n : Int))), .ref (q 21), .ref (q 22), .int (iI (x 11 0)), .int (iI (x 12 0)), .int (iI (x 13 0)), .int (iI (t)), .int (iI (x 15 0)), .int (iI (x 16 0)), .int (iI (x 21 0)), .int (iI (x 22 0)), .int (iI (y 32 0)), .int (iI (y 33 0)), .int (iI (y 34 0)), .int (iI (y 35 0)), .int (iI (y 36 0)), .ref (q 23), .int (iI (x 18 0)), .int (iI (x 17 0)), .ref (q 24), .int (iI (x 19 0)), .ref (q 25), .int (iI (x 20 0)), .ref (q 26), .ref (q 27), .ref (q 28), .ref (q 29)])), (q 21, .inl (T 1, 2000, .inl (fun jj : Nat => (iF (x 0)) (jj : Int)))), (q 22, .inl (T 2, 2000, .inl (fun jj : Nat => (iF (x 1)) (jj : Int)))), (q 23, .inl (T 1, 80, .inl (fun jj : Nat => (iF (mkF (x 2) (x 18 0))) (jj : Int)))), (q 24, .inl (T 1, 1600, .inl (fun jj : Nat => (iF (cdF (x 2) (x 18 0))) (jj : Int)))), (q 25, .inl (T 1, 5280, .inl (fun jj : Nat => (iF (x 3)) (jj : Int)))), (q 26, .inl (T 1, 1600, .inl (fun jj : Nat => (iF (x 4)) (jj : Int)))), (q 27, .inl (T 0, 2000, .inl (fun jj : Nat => (iF (y 37)) (jj : Int)))), (q 28, .inl (T 0, 2000, .inl (fun jj : Nat => (iF (y 38)) (jj : Int)))), (q 29, .inl (T 1, 2000, .inl (fun jj : Nat => (iF (y 39)) (jj : Int))))]) rfl (by decide) (by decide) (fun _ => rfl) (by decide) (fun r u_ H locs hq49 hP hD hS => ?_)
          subst hq49
          refine lv_istore (lv' := [(4, .int (iI (rnk ((x 0) ((x 13 0) - j))))), (3, .int (iI (rnk ((x 0) ((x 12 0) - j))))), (2, .int (iI (j))), (1, .int (iI (k))), (0, .ref (q 20))]) hx hb d_MO_compare_52 hl (by decide) rfl (fun ls hl => ?_)
          have h3 := rnk_in hc48
          refine lv_aload_n hx hb d_MO_compare_54 rfl (lv_at hl 4 rfl) ?_
          refine lv_iload_n hx hb d_MO_compare_55 rfl (lv_at hl 1 rfl) ?_
          refine lv_iload hx hb d_MO_compare_56 (lv_at hl 0 rfl) ?_
          refine cx_icmp_ne (tgt := 68) hx hb d_MO_compare_58 rfl (by omega) (by omega) (fun h58 => ?_) (fun h58 => ?_)
          · refine lv_iload hx hb d_MO_compare_68 (lv_at hl 0 rfl) ?_
            refine lv_iload_n hx hb d_MO_compare_70 rfl (lv_at hl 1 rfl) ?_
            refine cx_icmp_le (tgt := 78) hx hb d_MO_compare_71 rfl (by omega) (by omega) (fun h71 => ?_) (fun h71 => ?_)
            · refine cx_iconst hx hb d_MO_compare_78 ?_
              refine va_put (D := D) (ci := 5) (v := .int (iI (-1))) (ty := .int) (C := R_MO) (T := T_MO) (N := 28) hx hb hT lays_MO t_MO t_MO_ok n_MO hown hK hP hD hS 0 rfl rfl 7 (by decide) (hT _ tw_643) (fun _ h9 => h9) rfl (by decide +kernel) rfl rfl (Nat.le_of_ble_eq_true rfl) d_MO_compare_79 (fun H locs hP hD hS => ?_)
              have hP : va_P D vwCl (moW T q n (x 0) (x 1) (mkF (x 2) (x 18 0)) (cdF (x 2) (x 18 0)) (x 3) (x 4) (x 11 0) (x 12 0) (x 13 0) (-1) (x 15 0) (x 16 0) (x 17 0) (x 18 0) (x 19 0) (x 20 0) (x 21 0) (x 22 0) (y 31 0) (y 32 0) (y 33 0) (y 34 0) (y 35 0) (y 36 0) (y 37) (y 38) (y 39)) H := hP
              have hD : va_D A (moW T q n (x 0) (x 1) (mkF (x 2) (x 18 0)) (cdF (x 2) (x 18 0)) (x 3) (x 4) (x 11 0) (x 12 0) (x 13 0) (-1) (x 15 0) (x 16 0) (x 17 0) (x 18 0) (x 19 0) (x 20 0) (x 21 0) (x 22 0) (y 31 0) (y 32 0) (y 33 0) (y 34 0) (y 35 0) (y 36 0) (y 37) (y 38) (y 39)) := hD
              refine cx_iinc (k := 2) (lv' := [(2, .int (iI (j + 1))), (4, .int (iI (rnk ((x 0) ((x 13 0) - j))))), (3, .int (iI (rnk ((x 0) ((x 12 0) - j))))), (1, .int (iI (k))), (0, .ref (q 20))]) hx hb d_MO_compare_82 hl rfl (by decide) rfl (fun ls hl => ?_)
              refine lv_goto (tgt := 18) hx hb d_MO_compare_85 rfl ?_
              exact ih1 (j + 1) (-1) _ _ _ (by omega) (by rw [ord_step (by omega), sgn_m (by omega), if_neg (by decide)]) hP hD hS (lv_sub hl [0, 3, 4] rfl)
            · refine cx_iconst hx hb d_MO_compare_74 ?_
              refine lv_goto (tgt := 79) hx hb d_MO_compare_75 rfl ?_
              refine va_put (D := D) (ci := 5) (v := .int (iI (1))) (ty := .int) (C := R_MO) (T := T_MO) (N := 28) hx hb hT lays_MO t_MO t_MO_ok n_MO hown hK hP hD hS 0 rfl rfl 7 (by decide) (hT _ tw_643) (fun _ h9 => h9) rfl (by decide +kernel) rfl rfl (Nat.le_of_ble_eq_true rfl) d_MO_compare_79 (fun H locs hP hD hS => ?_)
              have hP : va_P D vwCl (moW T q n (x 0) (x 1) (mkF (x 2) (x 18 0)) (cdF (x 2) (x 18 0)) (x 3) (x 4) (x 11 0) (x 12 0) (x 13 0) 1 (x 15 0) (x 16 0) (x 17 0) (x 18 0) (x 19 0) (x 20 0) (x 21 0) (x 22 0) (y 31 0) (y 32 0) (y 33 0) (y 34 0) (y 35 0) (y 36 0) (y 37) (y 38) (y 39)) H := hP
              have hD : va_D A (moW T q n (x 0) (x 1) (mkF (x 2) (x 18 0)) (cdF (x 2) (x 18 0)) (x 3) (x 4) (x 11 0) (x 12 0) (x 13 0) 1 (x 15 0) (x 16 0) (x 17 0) (x 18 0) (x 19 0) (x 20 0) (x 21 0) (x 22 0) (y 31 0) (y 32 0) (y 33 0) (y 34 0) (y 35 0) (y 36 0) (y 37) (y 38) (y 39)) := hD
              refine cx_iinc (k := 2) (lv' := [(2, .int (iI (j + 1))), (4, .int (iI (rnk ((x 0) ((x 13 0) - j))))), (3, .int (iI (rnk ((x 0) ((x 12 0) - j))))), (1, .int (iI (k))), (0, .ref (q 20))]) hx hb d_MO_compare_82 hl rfl (by decide) rfl (fun ls hl => ?_)
              refine lv_goto (tgt := 18) hx hb d_MO_compare_85 rfl ?_
              exact ih1 (j + 1) 1 _ _ _ (by omega) (by rw [ord_step (by omega), sgn_1 (by omega), if_neg (by decide)]) hP hD hS (lv_sub hl [0, 3, 4] rfl)
          · refine lv_aload_n hx hb d_MO_compare_61 rfl (lv_at hl 4 rfl) ?_
            refine va_get (D := D) (ci := 5) (v := .int (iI (t))) (C := R_MO) (T := T_MO) (N := 28) hx hb hT lays_MO hown hK hP 0 rfl rfl 7 (by decide) (hT _ tw_643) (fun _ h9 => h9) rfl d_MO_compare_62 ?_
            refine lv_goto (tgt := 79) hx hb d_MO_compare_65 rfl ?_
            refine va_put (D := D) (ci := 5) (v := .int (iI (t))) (ty := .int) (C := R_MO) (T := T_MO) (N := 28) hx hb hT lays_MO t_MO t_MO_ok n_MO hown hK hP hD hS 0 rfl rfl 7 (by decide) (hT _ tw_643) (fun _ h9 => h9) rfl (by decide +kernel) rfl rfl (Nat.le_of_ble_eq_true rfl) d_MO_compare_79 (fun H locs hP hD hS => ?_)
            have hP : va_P D vwCl (moW T q n (x 0) (x 1) (mkF (x 2) (x 18 0)) (cdF (x 2) (x 18 0)) (x 3) (x 4) (x 11 0) (x 12 0) (x 13 0) t (x 15 0) (x 16 0) (x 17 0) (x 18 0) (x 19 0) (x 20 0) (x 21 0) (x 22 0) (y 31 0) (y 32 0) (y 33 0) (y 34 0) (y 35 0) (y 36 0) (y 37) (y 38) (y 39)) H := hP
            have hD : va_D A (moW T q n (x 0) (x 1) (mkF (x 2) (x 18 0)) (cdF (x 2) (x 18 0)) (x 3) (x 4) (x 11 0) (x 12 0) (x 13 0) t (x 15 0) (x 16 0) (x 17 0) (x 18 0) (x 19 0) (x 20 0) (x 21 0) (x 22 0) (y 31 0) (y 32 0) (y 33 0) (y 34 0) (y 35 0) (y 36 0) (y 37) (y 38) (y 39)) := hD
            refine cx_iinc (k := 2) (lv' := [(2, .int (iI (j + 1))), (4, .int (iI (rnk ((x 0) ((x 13 0) - j))))), (3, .int (iI (rnk ((x 0) ((x 12 0) - j))))), (1, .int (iI (k))), (0, .ref (q 20))]) hx hb d_MO_compare_82 hl rfl (by decide) rfl (fun ls hl => ?_)
            refine lv_goto (tgt := 18) hx hb d_MO_compare_85 rfl ?_
            exact ih1 (j + 1) t _ _ _ (by omega) (by rw [ord_step (by omega), if_pos (by rw [sgn_0]; omega)]; exact hv) hP hD hS (lv_sub hl [0, 3, 4] rfl)
    exact L1 2001 0 0 _ _ _ (by omega) rfl hP hD hS (lv_sub hl [0, 1, 2] rfl)
  · refine cx_iconst hx hb d_MO_compare_9 ?_
    exact hret ((x, y) : SX × SX) (⟨pst_of (by unfold cmpS cmpK; rw [if_pos (by rw [← hk]; omega)]) hX, ⟨rfl, rfl⟩⟩) hP hD hS d_MO_compare_10

set_option maxHeartbeats 4000000 in
set_option maxRecDepth 100000 in
theorem c_MO_load (l : Launch) (D : va_G) (T : Nat → ClassId) (sz : Nat) (q : Nat → Nat) (n : Nat) (hn : 400 ≤ n ∧ n ≤ 2000) (x y : SX) (hX : okX x) : MI l y_MO_load (wY y_MO_load b_MO_load 3 (some .int)) (rmK 2) D vwCl (tyL T) nwL sz [.ref (q 20)] (moW T q n (x 0) (x 1) (mkF (x 2) (x 18 0)) (cdF (x 2) (x 18 0)) (x 3) (x 4) (x 11 0) (x 12 0) (x 13 0) (x 14 0) (x 15 0) (x 16 0) (x 17 0) (x 18 0) (x 19 0) (x 20 0) (x 21 0) (x 22 0) (y 31 0) (y 32 0) (y 33 0) (y 34 0) (y 35 0) (y 36 0) (y 37) (y 38) (y 39)) (fun r (u : SX × SX) => pst (lodS n x) r u.1 ∧ (u.2 31 = y 31 ∧ u.2 33 = y 33)) (fun (u : SX × SX) => moX T q n u.1 u.2) := by
  refine cx_inI (by decide) rfl (Nat.le_of_ble_eq_true rfl) ?_
  intro p e s m below meth cd ls A Q hx hb hml hT hown hret hP hK hD hN hS hA hl
  have hown : s.vm.findClass R_MO = some m.cls := hown
  have hl : lv_has ls 3 [(0, .ref (q 20))] := hl
  have hC := hX.1
  have hR0 := hX.2.1
  have hF := hX.2.2
  unfold okR at hR0
  refine lv_aload_n hx hb d_MO_load_0 rfl (lv_at hl 0 rfl) ?_
  refine lv_aload_n hx hb d_MO_load_1 rfl (lv_at hl 0 rfl) ?_
  refine va_get (D := D) (ci := 5) (v := .int (iI (x 12 0))) (C := R_MO) (T := T_MO) (N := 28) hx hb hT lays_MO hown hK hP 0 rfl rfl 5 (by decide) (hT _ tw_641) (fun _ h9 => h9) rfl d_MO_load_2 ?_
  refine cx_sipush hx hb d_MO_load_5 rfl ?_
  refine cx_cI (ws2 := fun _ => moW T q n (x 0) (x 1) (mkF (x 2) (x 18 0)) (cdF (x 2) (x 18 0)) (x 3) (x 4) (x 11 0) (x 12 0) (x 13 0) (x 14 0) (x 15 0) (x 16 0) (x 17 0) (x 18 0) (x 19 0) (x 20 0) (x 21 0) (x 22 0) (y 31 0) (y 32 0) (y 33 0) (y 34 0) (y 35 0) (y 36 0) (y 37) (y 38) (y 39)) (cx_rV (q0 := 0) (ci := 5) (rest := []) (As := [.int (iI (x 12 0)), .int (iI (3000))]) hx hb hml hown hT hK hN hP hD hl.1 tw_786 k_MO_field (c_MO_field l D T s.heap.size q n hn x y hX (x 12 0) 3000 (by omega) (by omega)) ⟨by decide, by decide⟩ ⟨rfl, rfl⟩ [0, 1, 2, 3, 4, 5, 6, 7, 8, 9] (by decide) rfl rfl rfl rfl rfl (Nat.le_of_ble_eq_true rfl) ⟨Nat.zero_le _, Nat.zero_le _⟩ d_MO_load_8) hP hD hS hA [0, 1, 2, 3, 4, 5, 6, 7, 8, 9] [] [0, 1, 2, 3, 4, 5, 6, 7, 8, 9] rfl (wr := []) rfl (by decide) (by decide) (fun _ => rfl) (by decide) (fun r u_ H locs hq8 hP hD hS => ?_)
  subst hq8
  refine cx_eq (y := iI (fld n (x 1) (x 12 0) 3000 2001 1)) rfl ?_
  refine lv_istore_n (lv' := [(1, .int (iI (fld n (x 1) (x 12 0) 3000 2001 1))), (0, .ref (q 20))]) hx hb d_MO_load_11 rfl hl (by decide) rfl (fun ls hl => ?_)
  obtain ⟨k, hk⟩ : ∃ z, z = fld n (x 1) (x 12 0) 3000 2001 1 := ⟨_, rfl⟩
  rw [← hk] at hl
  have hk1 := fld_in hk
  refine lv_iload_n hx hb d_MO_load_12 rfl (lv_at hl 0 rfl) ?_
  refine cx_if_eq (tgt := 42) hx hb d_MO_load_13 rfl (by omega) (fun h13 => ?_) (fun h13 => ?_)
  · refine cx_iconst hx hb d_MO_load_42 ?_
    exact hret ((x, y) : SX × SX) (⟨pst_of (by unfold lodS; rw [← fld_3000 (by omega), ← hk]; unfold lodK; rw [if_pos (by omega)]) hX, ⟨rfl, rfl⟩⟩) hP hD hS d_MO_load_43
  · refine lv_aload_n hx hb d_MO_load_16 rfl (lv_at hl 1 rfl) ?_
    refine lv_aload_n hx hb d_MO_load_17 rfl (lv_at hl 1 rfl) ?_
    refine va_get (D := D) (ci := 5) (v := .int (iI (x 13 0))) (C := R_MO) (T := T_MO) (N := 28) hx hb hT lays_MO hown hK hP 0 rfl rfl 6 (by decide) (hT _ tw_642) (fun _ h9 => h9) rfl d_MO_load_18 ?_
    refine cx_cI (ws2 := fun _ => moW T q n (x 0) (x 1) (mkF (x 2) (x 18 0)) (cdF (x 2) (x 18 0)) (x 3) (x 4) (x 11 0) (x 12 0) (x 13 0) (x 14 0) (x 15 0) (x 16 0) (x 17 0) (x 18 0) (x 19 0) (x 20 0) (x 21 0) (x 22 0) (y 31 0) (y 32 0) (y 33 0) (y 34 0) (y 35 0) (y 36 0) (y 37) (y 38) (y 39)) (cx_rV (q0 := 0) (ci := 5) (rest := []) (As := [.int (iI (x 13 0))]) hx hb hml hown hT hK hN hP hD hl.1 tw_731 k_MO_is (c_MO_is l D T H.size q n hn x y hX (x 13 0) (by omega)) ⟨by decide, by decide⟩ ⟨rfl, rfl⟩ [0, 1, 2, 3, 4, 5, 6, 7, 8, 9] (by decide) rfl rfl rfl rfl rfl (Nat.le_of_ble_eq_true rfl) ⟨Nat.zero_le _, Nat.zero_le _⟩ d_MO_load_21) hP hD hS hA [0, 1, 2, 3, 4, 5, 6, 7, 8, 9] [] [0, 1, 2, 3, 4, 5, 6, 7, 8, 9] rfl (wr := []) rfl (by decide) (by decide) (fun _ => rfl) (by decide) (fun r u_ H locs hq21 hP hD hS => ?_)
    rcases hq21 with ⟨rfl, h21⟩ | ⟨rfl, h21⟩
    · refine cx_if_eq (tgt := 42) hx hb d_MO_load_24 rfl (by omega) (fun h0 => absurd h0 (by decide)) (fun _ => ?_)
      refine lv_aload_n hx hb d_MO_load_27 rfl (lv_at hl 1 rfl) ?_
      refine lv_aload_n hx hb d_MO_load_28 rfl (lv_at hl 1 rfl) ?_
      refine va_get (D := D) (ci := 5) (v := .int (iI (x 13 0))) (C := R_MO) (T := T_MO) (N := 28) hx hb hT lays_MO hown hK hP 0 rfl rfl 6 (by decide) (hT _ tw_642) (fun _ h9 => h9) rfl d_MO_load_29 ?_
      refine lv_iload_n hx hb d_MO_load_32 rfl (lv_at hl 0 rfl) ?_
      refine cx_isub hx hb d_MO_load_33 ?_
      refine cx_iconst hx hb d_MO_load_34 ?_
      refine cx_iadd hx hb d_MO_load_35 ?_
      refine cx_cI (ws2 := fun _ => moW T q n (x 0) (x 1) (mkF (x 2) (x 18 0)) (cdF (x 2) (x 18 0)) (x 3) (x 4) (x 11 0) (x 12 0) (x 13 0) (x 14 0) (x 15 0) (x 16 0) (x 17 0) (x 18 0) (x 19 0) (x 20 0) (x 21 0) (x 22 0) (y 31 0) (y 32 0) (y 33 0) (y 34 0) (y 35 0) (y 36 0) (y 37) (y 38) (y 39)) (cx_rV (q0 := 0) (ci := 5) (rest := []) (As := [.int (iI (((x 13 0) - k) + 1))]) hx hb hml hown hT hK hN hP hD hl.1 tw_731 k_MO_is (c_MO_is l D T H.size q n hn x y hX (((x 13 0) - k) + 1) (by omega)) ⟨by decide, by decide⟩ ⟨rfl, rfl⟩ [0, 1, 2, 3, 4, 5, 6, 7, 8, 9] (by decide) rfl rfl rfl rfl rfl (Nat.le_of_ble_eq_true rfl) ⟨Nat.zero_le _, Nat.zero_le _⟩ d_MO_load_36) hP hD hS hA [0, 1, 2, 3, 4, 5, 6, 7, 8, 9] [] [0, 1, 2, 3, 4, 5, 6, 7, 8, 9] rfl (wr := []) rfl (by decide) (by decide) (fun _ => rfl) (by decide) (fun r u_ H locs hq36 hP hD hS => ?_)
      rcases hq36 with ⟨rfl, h36⟩ | ⟨rfl, h36⟩
      · refine cx_if_ne (tgt := 44) hx hb d_MO_load_39 rfl (by omega) (fun _ => ?_) (fun h0 => absurd h0 (by decide))
        refine cx_iconst hx hb d_MO_load_44 ?_
        refine lv_istore_n (lv' := [(2, .int (iI (0))), (1, .int (iI (k))), (0, .ref (q 20))]) hx hb d_MO_load_45 rfl hl (by decide) rfl (fun ls hl => ?_)
        have L1 : ∀ (k_ : Nat) (j : Int) (H : Heap) (locs : List Loc) (ls : Array Slot), (0 ≤ j ∧ j ≤ k ∧ k - j < k_) → va_P D vwCl (moW T q n (x 0) (x 1) (mkF (x 2) (x 18 0)) (cdF (x 2) (x 18 0)) (x 3) (x 4) (x 11 0) (x 12 0) (x 13 0) (x 14 0) (x 15 0) (x 16 0) (x 17 0) (x 18 0) (x 19 0) (x 20 0) (x 21 0) (x 22 0) (y 31 0) (y 32 0) (y 33 0) (y 34 0) (y 35 0) (y 36 0) (y 37) (y 38) (spa (y 39) 0 (j) (fun k => x 0 (x 12 0 - k)))) H → va_D A (moW T q n (x 0) (x 1) (mkF (x 2) (x 18 0)) (cdF (x 2) (x 18 0)) (x 3) (x 4) (x 11 0) (x 12 0) (x 13 0) (x 14 0) (x 15 0) (x 16 0) (x 17 0) (x 18 0) (x 19 0) (x 20 0) (x 21 0) (x 22 0) (y 31 0) (y 32 0) (y 33 0) (y 34 0) (y 35 0) (y 36 0) (y 37) (y 38) (spa (y 39) 0 (j) (fun k => x 0 (x 12 0 - k)))) → va_S A s.heap H locs → lv_has ls 3 [(2, .int (iI (j))), (1, .int (iI (k))), (0, .ref (q 20))] → W p l e (rmK 2) s m ([.ref (q 20)] : List Value).toArray below meth cd H locs 0 0 Q (F0 m 46 ls []) := by
          intro k_
          induction k_ with
          | zero => intro j H locs ls hj _ _ _ _; exact absurd hj (by omega)
          | succ k_ ih1 =>
            intro j H locs ls hj hP hD hS hl
            refine lv_iload_n hx hb d_MO_load_46 rfl (lv_at hl 0 rfl) ?_
            refine lv_iload_n hx hb d_MO_load_47 rfl (lv_at hl 1 rfl) ?_
            refine cx_icmp_ge (tgt := 74) hx hb d_MO_load_48 rfl (by omega) (by omega) (fun h48 => ?_) (fun h48 => ?_)
            · obtain rfl : j = k := by omega
              obtain ⟨cp, hcp⟩ : ∃ c, c = spa (y 39) 0 (j) (fun k => x 0 (x 12 0 - k)) := ⟨_, rfl⟩
              rw [← hcp] at hP hD
              refine cx_iconst hx hb d_MO_load_74 ?_
              refine lv_istore_n (lv' := [(2, .int (iI (0))), (1, .int (iI (j))), (0, .ref (q 20))]) hx hb d_MO_load_75 rfl hl (by decide) rfl (fun ls hl => ?_)
              have L2 : ∀ (k_ : Nat) (j2 : Int) (H : Heap) (locs : List Loc) (ls : Array Slot), (0 ≤ j2 ∧ j2 ≤ j ∧ j - j2 < k_) → (okC (spn (x 0) (x 13 0) (j2) (fun i => x 0 (x 12 0 - i))) (spn (x 1) (x 13 0) (j2) (fun i => if i = j - 1 then 1 else 0))) → va_P D vwCl (moW T q n (spn (x 0) (x 13 0) (j2) (fun i => x 0 (x 12 0 - i))) (spn (x 1) (x 13 0) (j2) (fun i => if i = j - 1 then 1 else 0)) (mkF (x 2) (x 18 0)) (cdF (x 2) (x 18 0)) (x 3) (x 4) (x 11 0) (x 12 0) (x 13 0) (x 14 0) (x 15 0) (x 16 0) (x 17 0) (x 18 0) (x 19 0) (x 20 0) (x 21 0) (x 22 0) (y 31 0) (y 32 0) (y 33 0) (y 34 0) (y 35 0) (y 36 0) (y 37) (y 38) cp) H → va_D A (moW T q n (spn (x 0) (x 13 0) (j2) (fun i => x 0 (x 12 0 - i))) (spn (x 1) (x 13 0) (j2) (fun i => if i = j - 1 then 1 else 0)) (mkF (x 2) (x 18 0)) (cdF (x 2) (x 18 0)) (x 3) (x 4) (x 11 0) (x 12 0) (x 13 0) (x 14 0) (x 15 0) (x 16 0) (x 17 0) (x 18 0) (x 19 0) (x 20 0) (x 21 0) (x 22 0) (y 31 0) (y 32 0) (y 33 0) (y 34 0) (y 35 0) (y 36 0) (y 37) (y 38) cp) → va_S A s.heap H locs → lv_has ls 3 [(2, .int (iI (j2))), (1, .int (iI (j))), (0, .ref (q 20))] → W p l e (rmK 2) s m ([.ref (q 20)] : List Value).toArray below meth cd H locs 0 0 Q (F0 m 76 ls []) := by
                intro k_
                induction k_ with
                | zero => intro j2 H locs ls hj2 hC _ _ _ _; exact absurd hj2 (by omega)
                | succ k_ ih2 =>
                  intro j2 H locs ls hj2 hC hP hD hS hl
                  refine lv_iload_n hx hb d_MO_load_76 rfl (lv_at hl 0 rfl) ?_
                  refine lv_iload_n hx hb d_MO_load_77 rfl (lv_at hl 1 rfl) ?_
                  refine cx_icmp_ge (tgt := 127) hx hb d_MO_load_78 rfl (by omega) (by omega) (fun h78 => ?_) (fun h78 => ?_)
                  · obtain rfl : j2 = j := by omega
                    rw [spn_cpyC (f := x 0) (a := x 12 0) (b := x 13 0) (k := j2), spn_cpyM (mk := x 1) (a := x 12 0) (b := x 13 0) (k := j2) hk hX.1.2 (by omega)] at hP hD hC
                    refine lv_aload_n hx hb d_MO_load_127 rfl (lv_at hl 2 rfl) ?_
                    refine lv_dup hx hb d_MO_load_128 rfl ?_
                    refine va_get (D := D) (ci := 5) (v := .int (iI (x 12 0))) (C := R_MO) (T := T_MO) (N := 28) hx hb hT lays_MO hown hK hP 0 rfl rfl 5 (by decide) (hT _ tw_641) (fun _ h9 => h9) rfl d_MO_load_129 ?_
                    refine lv_iload_n hx hb d_MO_load_132 rfl (lv_at hl 1 rfl) ?_
                    refine cx_isub hx hb d_MO_load_133 ?_
                    refine va_put (D := D) (ci := 5) (v := .int (iI ((x 12 0) - j2))) (ty := .int) (C := R_MO) (T := T_MO) (N := 28) hx hb hT lays_MO t_MO t_MO_ok n_MO hown hK hP hD hS 0 rfl rfl 5 (by decide) (hT _ tw_641) (fun _ h9 => h9) rfl (by decide +kernel) rfl rfl (Nat.le_of_ble_eq_true rfl) d_MO_load_134 (fun H locs hP hD hS => ?_)
                    have hP : va_P D vwCl (moW T q n (cpy (x 0) (x 12 0 - j2 + 1) (x 13 0 - j2 + 1) j2) (cpy (x 1) (x 12 0 - j2 + 1) (x 13 0 - j2 + 1) j2) (mkF (x 2) (x 18 0)) (cdF (x 2) (x 18 0)) (x 3) (x 4) (x 11 0) ((x 12 0) - j2) (x 13 0) (x 14 0) (x 15 0) (x 16 0) (x 17 0) (x 18 0) (x 19 0) (x 20 0) (x 21 0) (x 22 0) (y 31 0) (y 32 0) (y 33 0) (y 34 0) (y 35 0) (y 36 0) (y 37) (y 38) cp) H := hP
                    have hD : va_D A (moW T q n (cpy (x 0) (x 12 0 - j2 + 1) (x 13 0 - j2 + 1) j2) (cpy (x 1) (x 12 0 - j2 + 1) (x 13 0 - j2 + 1) j2) (mkF (x 2) (x 18 0)) (cdF (x 2) (x 18 0)) (x 3) (x 4) (x 11 0) ((x 12 0) - j2) (x 13 0) (x 14 0) (x 15 0) (x 16 0) (x 17 0) (x 18 0) (x 19 0) (x 20 0) (x 21 0) (x 22 0) (y 31 0) (y 32 0) (y 33 0) (y 34 0) (y 35 0) (y 36 0) (y 37) (y 38) cp) := hD
                    refine lv_aload_n hx hb d_MO_load_137 rfl (lv_at hl 2 rfl) ?_
                    refine lv_dup hx hb d_MO_load_138 rfl ?_
                    refine va_get (D := D) (ci := 5) (v := .int (iI (x 13 0))) (C := R_MO) (T := T_MO) (N := 28) hx hb hT lays_MO hown hK hP 0 rfl rfl 6 (by decide) (hT _ tw_642) (fun _ h9 => h9) rfl d_MO_load_139 ?_
                    refine lv_iload_n hx hb d_MO_load_142 rfl (lv_at hl 1 rfl) ?_
                    refine cx_isub hx hb d_MO_load_143 ?_
                    refine va_put (D := D) (ci := 5) (v := .int (iI ((x 13 0) - j2))) (ty := .int) (C := R_MO) (T := T_MO) (N := 28) hx hb hT lays_MO t_MO t_MO_ok n_MO hown hK hP hD hS 0 rfl rfl 6 (by decide) (hT _ tw_642) (fun _ h9 => h9) rfl (by decide +kernel) rfl rfl (Nat.le_of_ble_eq_true rfl) d_MO_load_144 (fun H locs hP hD hS => ?_)
                    have hP : va_P D vwCl (moW T q n (cpy (x 0) (x 12 0 - j2 + 1) (x 13 0 - j2 + 1) j2) (cpy (x 1) (x 12 0 - j2 + 1) (x 13 0 - j2 + 1) j2) (mkF (x 2) (x 18 0)) (cdF (x 2) (x 18 0)) (x 3) (x 4) (x 11 0) ((x 12 0) - j2) ((x 13 0) - j2) (x 14 0) (x 15 0) (x 16 0) (x 17 0) (x 18 0) (x 19 0) (x 20 0) (x 21 0) (x 22 0) (y 31 0) (y 32 0) (y 33 0) (y 34 0) (y 35 0) (y 36 0) (y 37) (y 38) cp) H := hP
                    have hD : va_D A (moW T q n (cpy (x 0) (x 12 0 - j2 + 1) (x 13 0 - j2 + 1) j2) (cpy (x 1) (x 12 0 - j2 + 1) (x 13 0 - j2 + 1) j2) (mkF (x 2) (x 18 0)) (cdF (x 2) (x 18 0)) (x 3) (x 4) (x 11 0) ((x 12 0) - j2) ((x 13 0) - j2) (x 14 0) (x 15 0) (x 16 0) (x 17 0) (x 18 0) (x 19 0) (x 20 0) (x 21 0) (x 22 0) (y 31 0) (y 32 0) (y 33 0) (y 34 0) (y 35 0) (y 36 0) (y 37) (y 38) cp) := hD
                    refine cx_iconst hx hb d_MO_load_147 ?_
                    exact hret ((up (up (up (up x 0 (cpy (x 0) (x 12 0 - j2 + 1) (x 13 0 - j2 + 1) j2)) 1 (cpy (x 1) (x 12 0 - j2 + 1) (x 13 0 - j2 + 1) j2)) 12 (cst ((x 12 0) - j2))) 13 (cst ((x 13 0) - j2)), up y 39 cp) : SX × SX) (⟨pst_of (by unfold lodS; rw [← fld_3000 (by omega), ← hk]; unfold lodK; rw [if_neg (by omega)]) (show okX (up (up (up (up x 0 (cpy (x 0) (x 12 0 - j2 + 1) (x 13 0 - j2 + 1) j2)) 1 (cpy (x 1) (x 12 0 - j2 + 1) (x 13 0 - j2 + 1) j2)) 12 (cst ((x 12 0) - j2))) 13 (cst ((x 13 0) - j2))) from ⟨hC, (show okR (x 11 0) ((x 12 0) - j2) ((x 13 0) - j2) (x 14 0) (x 15 0) (x 16 0) (x 17 0) (x 18 0) (x 19 0) (x 20 0) by have h8 := hX.2.1; unfold okR at h8 ⊢; omega), hX.2.2⟩), ⟨rfl, rfl⟩⟩) hP hD hS d_MO_load_148
                  · refine lv_aload_n hx hb d_MO_load_81 rfl (lv_at hl 2 rfl) ?_
                    refine va_get (D := D) (ci := 5) (v := .ref (q 21)) (C := R_MO) (T := T_MO) (N := 28) hx hb hT lays_MO hown hK hP 0 rfl rfl 2 (by decide) (hT _ tw_638) (fun _ h9 => h9) rfl d_MO_load_82 ?_
                    refine lv_aload_n hx hb d_MO_load_85 rfl (lv_at hl 2 rfl) ?_
                    refine va_get (D := D) (ci := 5) (v := .int (iI (x 13 0))) (C := R_MO) (T := T_MO) (N := 28) hx hb hT lays_MO hown hK hP 0 rfl rfl 6 (by decide) (hT _ tw_642) (fun _ h9 => h9) rfl d_MO_load_86 ?_
                    refine lv_iload_n hx hb d_MO_load_89 rfl (lv_at hl 0 rfl) ?_
                    refine cx_isub hx hb d_MO_load_90 ?_
                    refine lv_aload_n hx hb d_MO_load_91 rfl (lv_at hl 2 rfl) ?_
                    refine va_get (D := D) (ci := 5) (v := .ref (q 29)) (C := R_MO) (T := T_MO) (N := 28) hx hb hT lays_MO hown hK hP 0 rfl rfl 27 (by decide) (hT _ tw_663) (fun _ h9 => h9) rfl d_MO_load_92 ?_
                    refine lv_iload_n hx hb d_MO_load_95 rfl (lv_at hl 0 rfl) ?_
                    refine cx_bald (g := iF cp) hx hb hK hP 9 1 rfl rfl (by omega) (by omega) d_MO_load_96 ?_
                    have hcp9 : cp (j2) = x 0 (x 12 0 - j2) := by rw [hcp, spa_in (j := j2) (by omega) (by omega)]
                    have hcp8 := hX.1.1 (x 12 0 - j2)
                    refine cx_bast (g := iF (spn (x 0) (x 13 0) (j2) (fun i => x 0 (x 12 0 - i)))) (g' := iF (fu (spn (x 0) (x 13 0) (j2) (fun i => x 0 (x 12 0 - i))) ((x 13 0) - j2) (cp (j2)))) hx hb hK hP hD hS 1 1 rfl rfl (by omega) (by omega) (by omega) (fun j => iF_put j) d_MO_load_97 (fun H locs hP hD hS => ?_)
                    have hP : va_P D vwCl (moW T q n (fu (spn (x 0) (x 13 0) (j2) (fun i => x 0 (x 12 0 - i))) ((x 13 0) - j2) (cp (j2))) (spn (x 1) (x 13 0) (j2) (fun i => if i = j - 1 then 1 else 0)) (mkF (x 2) (x 18 0)) (cdF (x 2) (x 18 0)) (x 3) (x 4) (x 11 0) (x 12 0) (x 13 0) (x 14 0) (x 15 0) (x 16 0) (x 17 0) (x 18 0) (x 19 0) (x 20 0) (x 21 0) (x 22 0) (y 31 0) (y 32 0) (y 33 0) (y 34 0) (y 35 0) (y 36 0) (y 37) (y 38) cp) H := hP
                    have hD : va_D A (moW T q n (fu (spn (x 0) (x 13 0) (j2) (fun i => x 0 (x 12 0 - i))) ((x 13 0) - j2) (cp (j2))) (spn (x 1) (x 13 0) (j2) (fun i => if i = j - 1 then 1 else 0)) (mkF (x 2) (x 18 0)) (cdF (x 2) (x 18 0)) (x 3) (x 4) (x 11 0) (x 12 0) (x 13 0) (x 14 0) (x 15 0) (x 16 0) (x 17 0) (x 18 0) (x 19 0) (x 20 0) (x 21 0) (x 22 0) (y 31 0) (y 32 0) (y 33 0) (y 34 0) (y 35 0) (y 36 0) (y 37) (y 38) cp) := hD
                    have hC : okC (fu (spn (x 0) (x 13 0) (j2) (fun i => x 0 (x 12 0 - i))) ((x 13 0) - j2) (cp (j2))) (spn (x 1) (x 13 0) (j2) (fun i => if i = j - 1 then 1 else 0)) := okC_fu hC (by omega)
                    refine lv_aload_n hx hb d_MO_load_98 rfl (lv_at hl 2 rfl) ?_
                    refine va_get (D := D) (ci := 5) (v := .ref (q 22)) (C := R_MO) (T := T_MO) (N := 28) hx hb hT lays_MO hown hK hP 0 rfl rfl 3 (by decide) (hT _ tw_639) (fun _ h9 => h9) rfl d_MO_load_99 ?_
                    refine lv_aload_n hx hb d_MO_load_102 rfl (lv_at hl 2 rfl) ?_
                    refine va_get (D := D) (ci := 5) (v := .int (iI (x 13 0))) (C := R_MO) (T := T_MO) (N := 28) hx hb hT lays_MO hown hK hP 0 rfl rfl 6 (by decide) (hT _ tw_642) (fun _ h9 => h9) rfl d_MO_load_103 ?_
                    refine lv_iload_n hx hb d_MO_load_106 rfl (lv_at hl 0 rfl) ?_
                    refine cx_isub hx hb d_MO_load_107 ?_
                    refine lv_iload_n hx hb d_MO_load_108 rfl (lv_at hl 0 rfl) ?_
                    refine lv_iload_n hx hb d_MO_load_109 rfl (lv_at hl 1 rfl) ?_
                    refine cx_iconst hx hb d_MO_load_110 ?_
                    refine cx_isub hx hb d_MO_load_111 ?_
                    refine cx_icmp_ne (tgt := 119) hx hb d_MO_load_112 rfl (by omega) (by omega) (fun h112 => ?_) (fun h112 => ?_)
                    · refine cx_iconst hx hb d_MO_load_119 ?_
                      refine cx_zast (g := iF (spn (x 1) (x 13 0) (j2) (fun i => if i = j - 1 then 1 else 0))) (g' := iF (fu (spn (x 1) (x 13 0) (j2) (fun i => if i = j - 1 then 1 else 0)) ((x 13 0) - j2) (0))) hx hb hK hP hD hS 2 2 rfl rfl (by omega) (by omega) (by omega) (fun j => iF_put j) d_MO_load_120 (fun H locs hP hD hS => ?_)
                      have hP : va_P D vwCl (moW T q n (fu (spn (x 0) (x 13 0) (j2) (fun i => x 0 (x 12 0 - i))) ((x 13 0) - j2) (cp (j2))) (fu (spn (x 1) (x 13 0) (j2) (fun i => if i = j - 1 then 1 else 0)) ((x 13 0) - j2) (0)) (mkF (x 2) (x 18 0)) (cdF (x 2) (x 18 0)) (x 3) (x 4) (x 11 0) (x 12 0) (x 13 0) (x 14 0) (x 15 0) (x 16 0) (x 17 0) (x 18 0) (x 19 0) (x 20 0) (x 21 0) (x 22 0) (y 31 0) (y 32 0) (y 33 0) (y 34 0) (y 35 0) (y 36 0) (y 37) (y 38) cp) H := hP
                      have hD : va_D A (moW T q n (fu (spn (x 0) (x 13 0) (j2) (fun i => x 0 (x 12 0 - i))) ((x 13 0) - j2) (cp (j2))) (fu (spn (x 1) (x 13 0) (j2) (fun i => if i = j - 1 then 1 else 0)) ((x 13 0) - j2) (0)) (mkF (x 2) (x 18 0)) (cdF (x 2) (x 18 0)) (x 3) (x 4) (x 11 0) (x 12 0) (x 13 0) (x 14 0) (x 15 0) (x 16 0) (x 17 0) (x 18 0) (x 19 0) (x 20 0) (x 21 0) (x 22 0) (y 31 0) (y 32 0) (y 33 0) (y 34 0) (y 35 0) (y 36 0) (y 37) (y 38) cp) := hD
                      have hC : okC (fu (spn (x 0) (x 13 0) (j2) (fun i => x 0 (x 12 0 - i))) ((x 13 0) - j2) (cp (j2))) (fu (spn (x 1) (x 13 0) (j2) (fun i => if i = j - 1 then 1 else 0)) ((x 13 0) - j2) (0)) := okC_mk hC (by omega)
                      refine cx_iinc (k := 0) (lv' := [(2, .int (iI (j2 + 1))), (1, .int (iI (j))), (0, .ref (q 20))]) hx hb d_MO_load_121 hl rfl (by decide) rfl (fun ls hl => ?_)
                      refine lv_goto (tgt := 76) hx hb d_MO_load_124 rfl ?_
                      rw [spn_step (F := fun i => x 0 (x 12 0 - i)) (by omega) hcp9.symm, spn_step (F := fun i => if i = j - 1 then 1 else 0) (by omega) (by rw [if_neg (by omega)])] at hP hD hC
                      exact ih2 (j2 + 1) _ _ _ (by omega) hC hP hD hS (lv_sub hl [0, 1, 2] rfl)
                    · refine cx_iconst hx hb d_MO_load_115 ?_
                      refine lv_goto (tgt := 120) hx hb d_MO_load_116 rfl ?_
                      refine cx_zast (g := iF (spn (x 1) (x 13 0) (j2) (fun i => if i = j - 1 then 1 else 0))) (g' := iF (fu (spn (x 1) (x 13 0) (j2) (fun i => if i = j - 1 then 1 else 0)) ((x 13 0) - j2) (1))) hx hb hK hP hD hS 2 2 rfl rfl (by omega) (by omega) (by omega) (fun j => iF_put j) d_MO_load_120 (fun H locs hP hD hS => ?_)
                      have hP : va_P D vwCl (moW T q n (fu (spn (x 0) (x 13 0) (j2) (fun i => x 0 (x 12 0 - i))) ((x 13 0) - j2) (cp (j2))) (fu (spn (x 1) (x 13 0) (j2) (fun i => if i = j - 1 then 1 else 0)) ((x 13 0) - j2) (1)) (mkF (x 2) (x 18 0)) (cdF (x 2) (x 18 0)) (x 3) (x 4) (x 11 0) (x 12 0) (x 13 0) (x 14 0) (x 15 0) (x 16 0) (x 17 0) (x 18 0) (x 19 0) (x 20 0) (x 21 0) (x 22 0) (y 31 0) (y 32 0) (y 33 0) (y 34 0) (y 35 0) (y 36 0) (y 37) (y 38) cp) H := hP
                      have hD : va_D A (moW T q n (fu (spn (x 0) (x 13 0) (j2) (fun i => x 0 (x 12 0 - i))) ((x 13 0) - j2) (cp (j2))) (fu (spn (x 1) (x 13 0) (j2) (fun i => if i = j - 1 then 1 else 0)) ((x 13 0) - j2) (1)) (mkF (x 2) (x 18 0)) (cdF (x 2) (x 18 0)) (x 3) (x 4) (x 11 0) (x 12 0) (x 13 0) (x 14 0) (x 15 0) (x 16 0) (x 17 0) (x 18 0) (x 19 0) (x 20 0) (x 21 0) (x 22 0) (y 31 0) (y 32 0) (y 33 0) (y 34 0) (y 35 0) (y 36 0) (y 37) (y 38) cp) := hD
                      have hC : okC (fu (spn (x 0) (x 13 0) (j2) (fun i => x 0 (x 12 0 - i))) ((x 13 0) - j2) (cp (j2))) (fu (spn (x 1) (x 13 0) (j2) (fun i => if i = j - 1 then 1 else 0)) ((x 13 0) - j2) (1)) := okC_mk hC (by omega)
                      refine cx_iinc (k := 0) (lv' := [(2, .int (iI (j2 + 1))), (1, .int (iI (j))), (0, .ref (q 20))]) hx hb d_MO_load_121 hl rfl (by decide) rfl (fun ls hl => ?_)
                      refine lv_goto (tgt := 76) hx hb d_MO_load_124 rfl ?_
                      rw [spn_step (F := fun i => x 0 (x 12 0 - i)) (by omega) hcp9.symm, spn_step (F := fun i => if i = j - 1 then 1 else 0) (by omega) (by rw [if_pos (by omega)])] at hP hD hC
                      exact ih2 (j2 + 1) _ _ _ (by omega) hC hP hD hS (lv_sub hl [0, 1, 2] rfl)
              rw [← spn_0 (x 0) (x 13 0) (fun i => x 0 (x 12 0 - i)), ← spn_0 (x 1) (x 13 0) (fun i => if i = j - 1 then 1 else 0)] at hP hD
              exact L2 2001 0 _ _ _ (by omega) (by rw [spn_0, spn_0]; exact hC) hP hD hS (lv_sub hl [0, 1, 2] rfl)
            · refine lv_aload_n hx hb d_MO_load_51 rfl (lv_at hl 2 rfl) ?_
              refine va_get (D := D) (ci := 5) (v := .ref (q 29)) (C := R_MO) (T := T_MO) (N := 28) hx hb hT lays_MO hown hK hP 0 rfl rfl 27 (by decide) (hT _ tw_663) (fun _ h9 => h9) rfl d_MO_load_52 ?_
              refine lv_iload_n hx hb d_MO_load_55 rfl (lv_at hl 0 rfl) ?_
              refine lv_aload_n hx hb d_MO_load_56 rfl (lv_at hl 2 rfl) ?_
              refine va_get (D := D) (ci := 5) (v := .ref (q 21)) (C := R_MO) (T := T_MO) (N := 28) hx hb hT lays_MO hown hK hP 0 rfl rfl 2 (by decide) (hT _ tw_638) (fun _ h9 => h9) rfl d_MO_load_57 ?_
              refine lv_aload_n hx hb d_MO_load_60 rfl (lv_at hl 2 rfl) ?_
              refine va_get (D := D) (ci := 5) (v := .int (iI (x 12 0))) (C := R_MO) (T := T_MO) (N := 28) hx hb hT lays_MO hown hK hP 0 rfl rfl 5 (by decide) (hT _ tw_641) (fun _ h9 => h9) rfl d_MO_load_61 ?_
              refine lv_iload_n hx hb d_MO_load_64 rfl (lv_at hl 0 rfl) ?_
              refine cx_isub hx hb d_MO_load_65 ?_
              refine cx_bald (g := iF (x 0)) hx hb hK hP 1 1 rfl rfl (by omega) (by omega) d_MO_load_66 ?_
              have hc66 := hC.1 ((x 12 0) - j)
              refine cx_bast (g := iF (spa (y 39) 0 (j) (fun k => x 0 (x 12 0 - k)))) (g' := iF (fu (spa (y 39) 0 (j) (fun k => x 0 (x 12 0 - k))) (j) ((x 0) ((x 12 0) - j)))) hx hb hK hP hD hS 9 1 rfl rfl (by omega) (by omega) (by omega) (fun j => iF_put j) d_MO_load_67 (fun H locs hP hD hS => ?_)
              have hP : va_P D vwCl (moW T q n (x 0) (x 1) (mkF (x 2) (x 18 0)) (cdF (x 2) (x 18 0)) (x 3) (x 4) (x 11 0) (x 12 0) (x 13 0) (x 14 0) (x 15 0) (x 16 0) (x 17 0) (x 18 0) (x 19 0) (x 20 0) (x 21 0) (x 22 0) (y 31 0) (y 32 0) (y 33 0) (y 34 0) (y 35 0) (y 36 0) (y 37) (y 38) (fu (spa (y 39) 0 (j) (fun k => x 0 (x 12 0 - k))) (j) ((x 0) ((x 12 0) - j)))) H := hP
              have hD : va_D A (moW T q n (x 0) (x 1) (mkF (x 2) (x 18 0)) (cdF (x 2) (x 18 0)) (x 3) (x 4) (x 11 0) (x 12 0) (x 13 0) (x 14 0) (x 15 0) (x 16 0) (x 17 0) (x 18 0) (x 19 0) (x 20 0) (x 21 0) (x 22 0) (y 31 0) (y 32 0) (y 33 0) (y 34 0) (y 35 0) (y 36 0) (y 37) (y 38) (fu (spa (y 39) 0 (j) (fun k => x 0 (x 12 0 - k))) (j) ((x 0) ((x 12 0) - j)))) := hD
              refine cx_iinc (k := 0) (lv' := [(2, .int (iI (j + 1))), (1, .int (iI (k))), (0, .ref (q 20))]) hx hb d_MO_load_68 hl rfl (by decide) rfl (fun ls hl => ?_)
              refine lv_goto (tgt := 46) hx hb d_MO_load_71 rfl ?_
              rw [spa_step (F := fun k => x 0 (x 12 0 - k)) (k2 := j + 1) (by omega) (by omega) rfl rfl] at hP hD
              exact ih1 (j + 1) _ _ _ (by omega) hP hD hS (lv_sub hl [0, 1, 2] rfl)
        rw [← spa_0 (y 39) 0 (fun k => x 0 (x 12 0 - k))] at hP hD
        exact L1 2001 0 _ _ _ (by omega) hP hD hS (lv_sub hl [0, 1, 2] rfl)
      · refine cx_if_ne (tgt := 44) hx hb d_MO_load_39 rfl (by omega) (fun h0 => absurd h0 (by decide)) (fun _ => ?_)
        refine cx_iconst hx hb d_MO_load_42 ?_
        exact hret ((x, y) : SX × SX) (⟨pst_of (by unfold lodS; rw [← fld_3000 (by omega), ← hk]; unfold lodK; rw [if_pos (by omega)]) hX, ⟨rfl, rfl⟩⟩) hP hD hS d_MO_load_43
    · refine cx_if_eq (tgt := 42) hx hb d_MO_load_24 rfl (by omega) (fun _ => ?_) (fun h0 => absurd h0 (by decide))
      refine cx_iconst hx hb d_MO_load_42 ?_
      exact hret ((x, y) : SX × SX) (⟨pst_of (by unfold lodS; rw [← fld_3000 (by omega), ← hk]; unfold lodK; rw [if_pos (by omega)]) hX, ⟨rfl, rfl⟩⟩) hP hD hS d_MO_load_43

set_option maxHeartbeats 4000000 in
set_option maxRecDepth 100000 in
theorem c_MO_readCard (l : Launch) (D : va_G) (T : Nat → ClassId) (sz : Nat) (q : Nat → Nat) (n : Nat) (hn : 400 ≤ n ∧ n ≤ 2000) (x y : SX) (hX : okX x) : MI l y_MO_readCard (wY y_MO_readCard b_MO_readCard 2 (some .int)) (rmK 0) D vwCl (tyL T) nwL sz [.ref (q 20)] (moW T q n (x 0) (x 1) (mkF (x 2) (x 18 0)) (cdF (x 2) (x 18 0)) (x 3) (x 4) (x 11 0) (x 12 0) (x 13 0) (x 14 0) (x 15 0) (x 16 0) (x 17 0) (x 18 0) (x 19 0) (x 20 0) (x 21 0) (x 22 0) (y 31 0) (y 32 0) (y 33 0) (y 34 0) (y 35 0) (y 36 0) (y 37) (y 38) (y 39)) (fun r (u : SX × SX) => pst (rdcS 0 x) r u.1 ∧ (u.2 31 = y 31 ∧ u.2 33 = y 33)) (fun (u : SX × SX) => moX T q n u.1 u.2) := by
  refine cx_inI (by decide) rfl (Nat.le_of_ble_eq_true rfl) ?_
  intro p e s m below meth cd ls A Q hx hb hml hT hown hret hP hK hD hN hS hA hl
  have hown : s.vm.findClass R_MO = some m.cls := hown
  have hl : lv_has ls 2 [(0, .ref (q 20))] := hl
  have hC := hX.1
  have hR0 := hX.2.1
  have hF := hX.2.2
  unfold okR at hR0
  refine lv_aload_n hx hb d_MO_readCard_0 rfl (lv_at hl 0 rfl) ?_
  refine va_get (D := D) (ci := 5) (v := .int (iI (x 17 0))) (C := R_MO) (T := T_MO) (N := 28) hx hb hT lays_MO hown hK hP 0 rfl rfl 19 (by decide) (hT _ tw_655) (fun _ h9 => h9) rfl d_MO_readCard_1 ?_
  refine lv_aload_n hx hb d_MO_readCard_4 rfl (lv_at hl 0 rfl) ?_
  refine va_get (D := D) (ci := 5) (v := .int (iI (x 18 0))) (C := R_MO) (T := T_MO) (N := 28) hx hb hT lays_MO hown hK hP 0 rfl rfl 18 (by decide) (hT _ tw_654) (fun _ h9 => h9) rfl d_MO_readCard_5 ?_
  refine cx_icmp_ne (tgt := 13) hx hb d_MO_readCard_8 rfl (by omega) (by omega) (fun h8 => ?_) (fun h8 => ?_)
  · refine cx_iconst hx hb d_MO_readCard_13 ?_
    refine lv_istore_n (lv' := [(1, .int (iI (0))), (0, .ref (q 20))]) hx hb d_MO_readCard_14 rfl hl (by decide) rfl (fun ls hl => ?_)
    have L1 : ∀ (k_ : Nat) (j : Int) (H : Heap) (locs : List Loc) (ls : Array Slot), (0 ≤ j ∧ j ≤ 80 ∧ 80 - j < k_) → (okC (spa (x 0) 1 (j) (fun k => x 2 (x 17 0 * 80 + k))) (x 1)) → va_P D vwCl (moW T q n (spa (x 0) 1 (j) (fun k => x 2 (x 17 0 * 80 + k))) (x 1) (mkF (x 2) (x 18 0)) (cdF (x 2) (x 18 0)) (x 3) (x 4) (x 11 0) (x 12 0) (x 13 0) (x 14 0) (x 15 0) (x 16 0) (x 17 0) (x 18 0) (x 19 0) (x 20 0) (x 21 0) (x 22 0) (y 31 0) (y 32 0) (y 33 0) (y 34 0) (y 35 0) (y 36 0) (y 37) (y 38) (y 39)) H → va_D A (moW T q n (spa (x 0) 1 (j) (fun k => x 2 (x 17 0 * 80 + k))) (x 1) (mkF (x 2) (x 18 0)) (cdF (x 2) (x 18 0)) (x 3) (x 4) (x 11 0) (x 12 0) (x 13 0) (x 14 0) (x 15 0) (x 16 0) (x 17 0) (x 18 0) (x 19 0) (x 20 0) (x 21 0) (x 22 0) (y 31 0) (y 32 0) (y 33 0) (y 34 0) (y 35 0) (y 36 0) (y 37) (y 38) (y 39)) → va_S A s.heap H locs → lv_has ls 2 [(1, .int (iI (j))), (0, .ref (q 20))] → W p l e (rmK 0) s m ([.ref (q 20)] : List Value).toArray below meth cd H locs 0 0 Q (F0 m 15 ls []) := by
      intro k_
      induction k_ with
      | zero => intro j H locs ls hj hC _ _ _ _; exact absurd hj (by omega)
      | succ k_ ih1 =>
        intro j H locs ls hj hC hP hD hS hl
        refine lv_iload_n hx hb d_MO_readCard_15 rfl (lv_at hl 0 rfl) ?_
        refine cx_bipush hx hb d_MO_readCard_16 rfl ?_
        refine cx_icmp_ge (tgt := 49) hx hb d_MO_readCard_18 rfl (by omega) (by omega) (fun h18 => ?_) (fun h18 => ?_)
        · obtain rfl : j = 80 := by omega
          refine lv_aload_n hx hb d_MO_readCard_49 rfl (lv_at hl 1 rfl) ?_
          refine lv_dup hx hb d_MO_readCard_50 rfl ?_
          refine va_get (D := D) (ci := 5) (v := .int (iI (x 17 0))) (C := R_MO) (T := T_MO) (N := 28) hx hb hT lays_MO hown hK hP 0 rfl rfl 19 (by decide) (hT _ tw_655) (fun _ h9 => h9) rfl d_MO_readCard_51 ?_
          refine cx_iconst hx hb d_MO_readCard_54 ?_
          refine cx_iadd hx hb d_MO_readCard_55 ?_
          refine va_put (D := D) (ci := 5) (v := .int (iI ((x 17 0) + 1))) (ty := .int) (C := R_MO) (T := T_MO) (N := 28) hx hb hT lays_MO t_MO t_MO_ok n_MO hown hK hP hD hS 0 rfl rfl 19 (by decide) (hT _ tw_655) (fun _ h9 => h9) rfl (by decide +kernel) rfl rfl (Nat.le_of_ble_eq_true rfl) d_MO_readCard_56 (fun H locs hP hD hS => ?_)
          have hP : va_P D vwCl (moW T q n (spa (x 0) 1 (80) (fun k => x 2 (x 17 0 * 80 + k))) (x 1) (mkF (x 2) (x 18 0)) (cdF (x 2) (x 18 0)) (x 3) (x 4) (x 11 0) (x 12 0) (x 13 0) (x 14 0) (x 15 0) (x 16 0) ((x 17 0) + 1) (x 18 0) (x 19 0) (x 20 0) (x 21 0) (x 22 0) (y 31 0) (y 32 0) (y 33 0) (y 34 0) (y 35 0) (y 36 0) (y 37) (y 38) (y 39)) H := hP
          have hD : va_D A (moW T q n (spa (x 0) 1 (80) (fun k => x 2 (x 17 0 * 80 + k))) (x 1) (mkF (x 2) (x 18 0)) (cdF (x 2) (x 18 0)) (x 3) (x 4) (x 11 0) (x 12 0) (x 13 0) (x 14 0) (x 15 0) (x 16 0) ((x 17 0) + 1) (x 18 0) (x 19 0) (x 20 0) (x 21 0) (x 22 0) (y 31 0) (y 32 0) (y 33 0) (y 34 0) (y 35 0) (y 36 0) (y 37) (y 38) (y 39)) := hD
          refine lv_aload_n hx hb d_MO_readCard_59 rfl (lv_at hl 1 rfl) ?_
          refine lv_aload_n hx hb d_MO_readCard_60 rfl (lv_at hl 1 rfl) ?_
          refine va_get (D := D) (ci := 5) (v := .int (iI ((x 17 0) + 1))) (C := R_MO) (T := T_MO) (N := 28) hx hb hT lays_MO hown hK hP 0 rfl rfl 19 (by decide) (hT _ tw_655) (fun _ h9 => h9) rfl d_MO_readCard_61 ?_
          refine lv_aload_n hx hb d_MO_readCard_64 rfl (lv_at hl 1 rfl) ?_
          refine va_get (D := D) (ci := 5) (v := .int (iI (x 18 0))) (C := R_MO) (T := T_MO) (N := 28) hx hb hT lays_MO hown hK hP 0 rfl rfl 18 (by decide) (hT _ tw_654) (fun _ h9 => h9) rfl d_MO_readCard_65 ?_
          refine cx_icmp_ne (tgt := 75) hx hb d_MO_readCard_68 rfl (by omega) (by omega) (fun h68 => ?_) (fun h68 => ?_)
          · refine cx_iconst hx hb d_MO_readCard_75 ?_
            refine va_put (D := D) (ci := 5) (v := .int (iI (0))) (ty := .boolean) (C := R_MO) (T := T_MO) (N := 28) hx hb hT lays_MO t_MO t_MO_ok n_MO hown hK hP hD hS 0 rfl rfl 9 (by decide) (hT _ tw_645) (fun _ h9 => h9) rfl (by decide +kernel) rfl rfl (Nat.le_of_ble_eq_true rfl) d_MO_readCard_76 (fun H locs hP hD hS => ?_)
            have hP : va_P D vwCl (moW T q n (spa (x 0) 1 (80) (fun k => x 2 (x 17 0 * 80 + k))) (x 1) (mkF (x 2) (x 18 0)) (cdF (x 2) (x 18 0)) (x 3) (x 4) (x 11 0) (x 12 0) (x 13 0) (x 14 0) (x 15 0) 0 ((x 17 0) + 1) (x 18 0) (x 19 0) (x 20 0) (x 21 0) (x 22 0) (y 31 0) (y 32 0) (y 33 0) (y 34 0) (y 35 0) (y 36 0) (y 37) (y 38) (y 39)) H := hP
            have hD : va_D A (moW T q n (spa (x 0) 1 (80) (fun k => x 2 (x 17 0 * 80 + k))) (x 1) (mkF (x 2) (x 18 0)) (cdF (x 2) (x 18 0)) (x 3) (x 4) (x 11 0) (x 12 0) (x 13 0) (x 14 0) (x 15 0) 0 ((x 17 0) + 1) (x 18 0) (x 19 0) (x 20 0) (x 21 0) (x 22 0) (y 31 0) (y 32 0) (y 33 0) (y 34 0) (y 35 0) (y 36 0) (y 37) (y 38) (y 39)) := hD
            refine lv_aload_n hx hb d_MO_readCard_79 rfl (lv_at hl 1 rfl) ?_
            refine cx_bipush hx hb d_MO_readCard_80 rfl ?_
            refine va_put (D := D) (ci := 5) (v := .int (iI (81))) (ty := .int) (C := R_MO) (T := T_MO) (N := 28) hx hb hT lays_MO t_MO t_MO_ok n_MO hown hK hP hD hS 0 rfl rfl 6 (by decide) (hT _ tw_642) (fun _ h9 => h9) rfl (by decide +kernel) rfl rfl (Nat.le_of_ble_eq_true rfl) d_MO_readCard_82 (fun H locs hP hD hS => ?_)
            have hP : va_P D vwCl (moW T q n (spa (x 0) 1 (80) (fun k => x 2 (x 17 0 * 80 + k))) (x 1) (mkF (x 2) (x 18 0)) (cdF (x 2) (x 18 0)) (x 3) (x 4) (x 11 0) (x 12 0) 81 (x 14 0) (x 15 0) 0 ((x 17 0) + 1) (x 18 0) (x 19 0) (x 20 0) (x 21 0) (x 22 0) (y 31 0) (y 32 0) (y 33 0) (y 34 0) (y 35 0) (y 36 0) (y 37) (y 38) (y 39)) H := hP
            have hD : va_D A (moW T q n (spa (x 0) 1 (80) (fun k => x 2 (x 17 0 * 80 + k))) (x 1) (mkF (x 2) (x 18 0)) (cdF (x 2) (x 18 0)) (x 3) (x 4) (x 11 0) (x 12 0) 81 (x 14 0) (x 15 0) 0 ((x 17 0) + 1) (x 18 0) (x 19 0) (x 20 0) (x 21 0) (x 22 0) (y 31 0) (y 32 0) (y 33 0) (y 34 0) (y 35 0) (y 36 0) (y 37) (y 38) (y 39)) := hD
            refine cx_iconst hx hb d_MO_readCard_85 ?_
            exact hret ((up (up (up (up x 0 (spa (x 0) 1 (80) (fun k => x 2 (x 17 0 * 80 + k)))) 13 (cst 81)) 16 (cst 0)) 17 (cst ((x 17 0) + 1)), y) : SX × SX) (⟨pst_of (by unfold rdcS gof; rw [if_neg (show ¬ (x 18 0 - x 17 0 = 0) by omega), if_pos (show (0 : Int) = 0 from rfl), if_neg (show ¬ (x 18 0 - (x 17 0 + 1) = 0) by omega)]; exact congrArg (Prod.mk 0) (up_swap3 _ _ _ _)) (show okX (up (up (up (up x 0 (spa (x 0) 1 (80) (fun k => x 2 (x 17 0 * 80 + k)))) 13 (cst 81)) 16 (cst 0)) 17 (cst ((x 17 0) + 1))) from ⟨hC, (show okR (x 11 0) (x 12 0) 81 (x 14 0) (x 15 0) 0 ((x 17 0) + 1) (x 18 0) (x 19 0) (x 20 0) by have h8 := hX.2.1; unfold okR at h8 ⊢; omega), hX.2.2⟩), ⟨rfl, rfl⟩⟩) hP hD hS d_MO_readCard_86
          · refine cx_iconst hx hb d_MO_readCard_71 ?_
            refine lv_goto (tgt := 76) hx hb d_MO_readCard_72 rfl ?_
            refine va_put (D := D) (ci := 5) (v := .int (iI (1))) (ty := .boolean) (C := R_MO) (T := T_MO) (N := 28) hx hb hT lays_MO t_MO t_MO_ok n_MO hown hK hP hD hS 0 rfl rfl 9 (by decide) (hT _ tw_645) (fun _ h9 => h9) rfl (by decide +kernel) rfl rfl (Nat.le_of_ble_eq_true rfl) d_MO_readCard_76 (fun H locs hP hD hS => ?_)
            have hP : va_P D vwCl (moW T q n (spa (x 0) 1 (80) (fun k => x 2 (x 17 0 * 80 + k))) (x 1) (mkF (x 2) (x 18 0)) (cdF (x 2) (x 18 0)) (x 3) (x 4) (x 11 0) (x 12 0) (x 13 0) (x 14 0) (x 15 0) 1 ((x 17 0) + 1) (x 18 0) (x 19 0) (x 20 0) (x 21 0) (x 22 0) (y 31 0) (y 32 0) (y 33 0) (y 34 0) (y 35 0) (y 36 0) (y 37) (y 38) (y 39)) H := hP
            have hD : va_D A (moW T q n (spa (x 0) 1 (80) (fun k => x 2 (x 17 0 * 80 + k))) (x 1) (mkF (x 2) (x 18 0)) (cdF (x 2) (x 18 0)) (x 3) (x 4) (x 11 0) (x 12 0) (x 13 0) (x 14 0) (x 15 0) 1 ((x 17 0) + 1) (x 18 0) (x 19 0) (x 20 0) (x 21 0) (x 22 0) (y 31 0) (y 32 0) (y 33 0) (y 34 0) (y 35 0) (y 36 0) (y 37) (y 38) (y 39)) := hD
            refine lv_aload_n hx hb d_MO_readCard_79 rfl (lv_at hl 1 rfl) ?_
            refine cx_bipush hx hb d_MO_readCard_80 rfl ?_
            refine va_put (D := D) (ci := 5) (v := .int (iI (81))) (ty := .int) (C := R_MO) (T := T_MO) (N := 28) hx hb hT lays_MO t_MO t_MO_ok n_MO hown hK hP hD hS 0 rfl rfl 6 (by decide) (hT _ tw_642) (fun _ h9 => h9) rfl (by decide +kernel) rfl rfl (Nat.le_of_ble_eq_true rfl) d_MO_readCard_82 (fun H locs hP hD hS => ?_)
            have hP : va_P D vwCl (moW T q n (spa (x 0) 1 (80) (fun k => x 2 (x 17 0 * 80 + k))) (x 1) (mkF (x 2) (x 18 0)) (cdF (x 2) (x 18 0)) (x 3) (x 4) (x 11 0) (x 12 0) 81 (x 14 0) (x 15 0) 1 ((x 17 0) + 1) (x 18 0) (x 19 0) (x 20 0) (x 21 0) (x 22 0) (y 31 0) (y 32 0) (y 33 0) (y 34 0) (y 35 0) (y 36 0) (y 37) (y 38) (y 39)) H := hP
            have hD : va_D A (moW T q n (spa (x 0) 1 (80) (fun k => x 2 (x 17 0 * 80 + k))) (x 1) (mkF (x 2) (x 18 0)) (cdF (x 2) (x 18 0)) (x 3) (x 4) (x 11 0) (x 12 0) 81 (x 14 0) (x 15 0) 1 ((x 17 0) + 1) (x 18 0) (x 19 0) (x 20 0) (x 21 0) (x 22 0) (y 31 0) (y 32 0) (y 33 0) (y 34 0) (y 35 0) (y 36 0) (y 37) (y 38) (y 39)) := hD
            refine cx_iconst hx hb d_MO_readCard_85 ?_
            exact hret ((up (up (up (up x 0 (spa (x 0) 1 (80) (fun k => x 2 (x 17 0 * 80 + k)))) 13 (cst 81)) 16 (cst 1)) 17 (cst ((x 17 0) + 1)), y) : SX × SX) (⟨pst_of (by unfold rdcS gof; rw [if_neg (show ¬ (x 18 0 - x 17 0 = 0) by omega), if_pos (show (0 : Int) = 0 from rfl), if_pos (show x 18 0 - (x 17 0 + 1) = 0 by omega)]; exact congrArg (Prod.mk 0) (up_swap3 _ _ _ _)) (show okX (up (up (up (up x 0 (spa (x 0) 1 (80) (fun k => x 2 (x 17 0 * 80 + k)))) 13 (cst 81)) 16 (cst 1)) 17 (cst ((x 17 0) + 1))) from ⟨hC, (show okR (x 11 0) (x 12 0) 81 (x 14 0) (x 15 0) 1 ((x 17 0) + 1) (x 18 0) (x 19 0) (x 20 0) by have h8 := hX.2.1; unfold okR at h8 ⊢; omega), hX.2.2⟩), ⟨rfl, rfl⟩⟩) hP hD hS d_MO_readCard_86
        · refine lv_aload_n hx hb d_MO_readCard_21 rfl (lv_at hl 1 rfl) ?_
          refine va_get (D := D) (ci := 5) (v := .ref (q 21)) (C := R_MO) (T := T_MO) (N := 28) hx hb hT lays_MO hown hK hP 0 rfl rfl 2 (by decide) (hT _ tw_638) (fun _ h9 => h9) rfl d_MO_readCard_22 ?_
          refine cx_iconst hx hb d_MO_readCard_25 ?_
          refine lv_iload_n hx hb d_MO_readCard_26 rfl (lv_at hl 0 rfl) ?_
          refine cx_iadd hx hb d_MO_readCard_27 ?_
          refine lv_aload_n hx hb d_MO_readCard_28 rfl (lv_at hl 1 rfl) ?_
          refine va_get (D := D) (ci := 5) (v := .ref (q 24)) (C := R_MO) (T := T_MO) (N := 28) hx hb hT lays_MO hown hK hP 0 rfl rfl 20 (by decide) (hT _ tw_656) (fun _ h9 => h9) rfl d_MO_readCard_29 ?_
          refine cx_bipush hx hb d_MO_readCard_32 rfl ?_
          refine lv_aload_n hx hb d_MO_readCard_34 rfl (lv_at hl 1 rfl) ?_
          refine va_get (D := D) (ci := 5) (v := .int (iI (x 17 0))) (C := R_MO) (T := T_MO) (N := 28) hx hb hT lays_MO hown hK hP 0 rfl rfl 19 (by decide) (hT _ tw_655) (fun _ h9 => h9) rfl d_MO_readCard_35 ?_
          refine cx_imul hx hb d_MO_readCard_38 ?_
          refine lv_iload_n hx hb d_MO_readCard_39 rfl (lv_at hl 0 rfl) ?_
          refine cx_iadd hx hb d_MO_readCard_40 ?_
          refine cx_bald (g := iF (cdF (x 2) (x 18 0))) hx hb hK hP 4 1 rfl rfl (by omega) (by omega) d_MO_readCard_41 ?_
          have hcd9 := cdF_in hF (80 * x 17 0 + j)
          refine cx_bast (g := iF (spa (x 0) 1 (j) (fun k => x 2 (x 17 0 * 80 + k)))) (g' := iF (fu (spa (x 0) 1 (j) (fun k => x 2 (x 17 0 * 80 + k))) (1 + j) ((cdF (x 2) (x 18 0)) ((80 * (x 17 0)) + j)))) hx hb hK hP hD hS 1 1 rfl rfl (by omega) (by omega) (by omega) (fun j => iF_put j) d_MO_readCard_42 (fun H locs hP hD hS => ?_)
          have hP : va_P D vwCl (moW T q n (fu (spa (x 0) 1 (j) (fun k => x 2 (x 17 0 * 80 + k))) (1 + j) ((cdF (x 2) (x 18 0)) ((80 * (x 17 0)) + j))) (x 1) (mkF (x 2) (x 18 0)) (cdF (x 2) (x 18 0)) (x 3) (x 4) (x 11 0) (x 12 0) (x 13 0) (x 14 0) (x 15 0) (x 16 0) (x 17 0) (x 18 0) (x 19 0) (x 20 0) (x 21 0) (x 22 0) (y 31 0) (y 32 0) (y 33 0) (y 34 0) (y 35 0) (y 36 0) (y 37) (y 38) (y 39)) H := hP
          have hD : va_D A (moW T q n (fu (spa (x 0) 1 (j) (fun k => x 2 (x 17 0 * 80 + k))) (1 + j) ((cdF (x 2) (x 18 0)) ((80 * (x 17 0)) + j))) (x 1) (mkF (x 2) (x 18 0)) (cdF (x 2) (x 18 0)) (x 3) (x 4) (x 11 0) (x 12 0) (x 13 0) (x 14 0) (x 15 0) (x 16 0) (x 17 0) (x 18 0) (x 19 0) (x 20 0) (x 21 0) (x 22 0) (y 31 0) (y 32 0) (y 33 0) (y 34 0) (y 35 0) (y 36 0) (y 37) (y 38) (y 39)) := hD
          have hC : okC (fu (spa (x 0) 1 (j) (fun k => x 2 (x 17 0 * 80 + k))) (1 + j) ((cdF (x 2) (x 18 0)) ((80 * (x 17 0)) + j))) (x 1) := okC_fu hC (by omega)
          refine cx_iinc (k := 0) (lv' := [(1, .int (iI (j + 1))), (0, .ref (q 20))]) hx hb d_MO_readCard_43 hl rfl (by decide) rfl (fun ls hl => ?_)
          refine lv_goto (tgt := 15) hx hb d_MO_readCard_46 rfl ?_
          rw [spa_step (F := fun k => x 2 (x 17 0 * 80 + k)) (k2 := j + 1) (by omega) (by omega) rfl (by unfold cdF; rw [if_pos (by omega)]; congr 1; omega)] at hP hD hC
          exact ih1 (j + 1) _ _ _ (by omega) hC hP hD hS (lv_sub hl [0, 1] rfl)
    rw [← spa_0 (x 0) 1 (fun k => x 2 (x 17 0 * 80 + k))] at hP hD
    exact L1 200 0 _ _ _ (by omega) (by rw [spa_0]; exact hC) hP hD hS (lv_sub hl [0, 1] rfl)
  · refine cx_iconst hx hb d_MO_readCard_11 ?_
    exact hret ((x, y) : SX × SX) (⟨pst_of (by unfold rdcS; rw [if_pos (by omega)]) hX, ⟨rfl, rfl⟩⟩) hP hD hS d_MO_readCard_12

set_option maxHeartbeats 4000000 in
set_option maxRecDepth 100000 in
theorem c_MO_print (l : Launch) (D : va_G) (T : Nat → ClassId) (sz : Nat) (q : Nat → Nat) (n : Nat) (hn : 400 ≤ n ∧ n ≤ 2000) (x y : SX) (hX : okX x) : MI l y_MO_print (wY y_MO_print b_MO_print 2 (some .int)) (rmK 0) D vwCl (tyL T) nwL sz [.ref (q 20)] (moW T q n (x 0) (x 1) (mkF (x 2) (x 18 0)) (cdF (x 2) (x 18 0)) (x 3) (x 4) (x 11 0) (x 12 0) (x 13 0) (x 14 0) (x 15 0) (x 16 0) (x 17 0) (x 18 0) (x 19 0) (x 20 0) (x 21 0) (x 22 0) (y 31 0) (y 32 0) (y 33 0) (y 34 0) (y 35 0) (y 36 0) (y 37) (y 38) (y 39)) (fun r (u : SX × SX) => pst (filS 3 19 40 201 132 0 x) r u.1 ∧ (u.2 31 = y 31 ∧ u.2 33 = y 33)) (fun (u : SX × SX) => moX T q n u.1 u.2) := by
  refine cx_inI (by decide) rfl (Nat.le_of_ble_eq_true rfl) ?_
  intro p e s m below meth cd ls A Q hx hb hml hT hown hret hP hK hD hN hS hA hl
  have hown : s.vm.findClass R_MO = some m.cls := hown
  have hl : lv_has ls 2 [(0, .ref (q 20))] := hl
  have hC := hX.1
  have hR0 := hX.2.1
  have hF := hX.2.2
  unfold okR at hR0
  refine lv_aload_n hx hb d_MO_print_0 rfl (lv_at hl 0 rfl) ?_
  refine va_get (D := D) (ci := 5) (v := .int (iI (x 19 0))) (C := R_MO) (T := T_MO) (N := 28) hx hb hT lays_MO hown hK hP 0 rfl rfl 21 (by decide) (hT _ tw_657) (fun _ h9 => h9) rfl d_MO_print_1 ?_
  refine cx_bipush hx hb d_MO_print_4 rfl ?_
  refine cx_icmp_ne (tgt := 11) hx hb d_MO_print_6 rfl (by omega) (by omega) (fun h6 => ?_) (fun h6 => ?_)
  · refine cx_iconst hx hb d_MO_print_11 ?_
    refine lv_istore_n (lv' := [(1, .int (iI (0))), (0, .ref (q 20))]) hx hb d_MO_print_12 rfl hl (by decide) rfl (fun ls hl => ?_)
    have L1 : ∀ (k_ : Nat) (j : Int) (H : Heap) (locs : List Loc) (ls : Array Slot), (0 ≤ j ∧ j ≤ 132 ∧ 132 - j < k_) → va_P D vwCl (moW T q n (x 0) (x 1) (mkF (x 2) (x 18 0)) (cdF (x 2) (x 18 0)) (spa (x 3) (x 19 0 * 132) (j) (fun k => x 0 (201 + k))) (x 4) (x 11 0) (x 12 0) (x 13 0) (x 14 0) (x 15 0) (x 16 0) (x 17 0) (x 18 0) (x 19 0) (x 20 0) (x 21 0) (x 22 0) (y 31 0) (y 32 0) (y 33 0) (y 34 0) (y 35 0) (y 36 0) (y 37) (y 38) (y 39)) H → va_D A (moW T q n (x 0) (x 1) (mkF (x 2) (x 18 0)) (cdF (x 2) (x 18 0)) (spa (x 3) (x 19 0 * 132) (j) (fun k => x 0 (201 + k))) (x 4) (x 11 0) (x 12 0) (x 13 0) (x 14 0) (x 15 0) (x 16 0) (x 17 0) (x 18 0) (x 19 0) (x 20 0) (x 21 0) (x 22 0) (y 31 0) (y 32 0) (y 33 0) (y 34 0) (y 35 0) (y 36 0) (y 37) (y 38) (y 39)) → va_S A s.heap H locs → lv_has ls 2 [(1, .int (iI (j))), (0, .ref (q 20))] → W p l e (rmK 0) s m ([.ref (q 20)] : List Value).toArray below meth cd H locs 0 0 Q (F0 m 13 ls []) := by
      intro k_
      induction k_ with
      | zero => intro j H locs ls hj _ _ _ _; exact absurd hj (by omega)
      | succ k_ ih1 =>
        intro j H locs ls hj hP hD hS hl
        refine lv_iload_n hx hb d_MO_print_13 rfl (lv_at hl 0 rfl) ?_
        refine cx_sipush hx hb d_MO_print_14 rfl ?_
        refine cx_icmp_ge (tgt := 51) hx hb d_MO_print_17 rfl (by omega) (by omega) (fun h17 => ?_) (fun h17 => ?_)
        · obtain rfl : j = 132 := by omega
          refine lv_aload_n hx hb d_MO_print_51 rfl (lv_at hl 1 rfl) ?_
          refine lv_dup hx hb d_MO_print_52 rfl ?_
          refine va_get (D := D) (ci := 5) (v := .int (iI (x 19 0))) (C := R_MO) (T := T_MO) (N := 28) hx hb hT lays_MO hown hK hP 0 rfl rfl 21 (by decide) (hT _ tw_657) (fun _ h9 => h9) rfl d_MO_print_53 ?_
          refine cx_iconst hx hb d_MO_print_56 ?_
          refine cx_iadd hx hb d_MO_print_57 ?_
          refine va_put (D := D) (ci := 5) (v := .int (iI ((x 19 0) + 1))) (ty := .int) (C := R_MO) (T := T_MO) (N := 28) hx hb hT lays_MO t_MO t_MO_ok n_MO hown hK hP hD hS 0 rfl rfl 21 (by decide) (hT _ tw_657) (fun _ h9 => h9) rfl (by decide +kernel) rfl rfl (Nat.le_of_ble_eq_true rfl) d_MO_print_58 (fun H locs hP hD hS => ?_)
          have hP : va_P D vwCl (moW T q n (x 0) (x 1) (mkF (x 2) (x 18 0)) (cdF (x 2) (x 18 0)) (spa (x 3) (x 19 0 * 132) (132) (fun k => x 0 (201 + k))) (x 4) (x 11 0) (x 12 0) (x 13 0) (x 14 0) (x 15 0) (x 16 0) (x 17 0) (x 18 0) ((x 19 0) + 1) (x 20 0) (x 21 0) (x 22 0) (y 31 0) (y 32 0) (y 33 0) (y 34 0) (y 35 0) (y 36 0) (y 37) (y 38) (y 39)) H := hP
          have hD : va_D A (moW T q n (x 0) (x 1) (mkF (x 2) (x 18 0)) (cdF (x 2) (x 18 0)) (spa (x 3) (x 19 0 * 132) (132) (fun k => x 0 (201 + k))) (x 4) (x 11 0) (x 12 0) (x 13 0) (x 14 0) (x 15 0) (x 16 0) (x 17 0) (x 18 0) ((x 19 0) + 1) (x 20 0) (x 21 0) (x 22 0) (y 31 0) (y 32 0) (y 33 0) (y 34 0) (y 35 0) (y 36 0) (y 37) (y 38) (y 39)) := hD
          refine lv_aload_n hx hb d_MO_print_61 rfl (lv_at hl 1 rfl) ?_
          refine cx_sipush hx hb d_MO_print_62 rfl ?_
          refine va_put (D := D) (ci := 5) (v := .int (iI (333))) (ty := .int) (C := R_MO) (T := T_MO) (N := 28) hx hb hT lays_MO t_MO t_MO_ok n_MO hown hK hP hD hS 0 rfl rfl 6 (by decide) (hT _ tw_642) (fun _ h9 => h9) rfl (by decide +kernel) rfl rfl (Nat.le_of_ble_eq_true rfl) d_MO_print_65 (fun H locs hP hD hS => ?_)
          have hP : va_P D vwCl (moW T q n (x 0) (x 1) (mkF (x 2) (x 18 0)) (cdF (x 2) (x 18 0)) (spa (x 3) (x 19 0 * 132) (132) (fun k => x 0 (201 + k))) (x 4) (x 11 0) (x 12 0) 333 (x 14 0) (x 15 0) (x 16 0) (x 17 0) (x 18 0) ((x 19 0) + 1) (x 20 0) (x 21 0) (x 22 0) (y 31 0) (y 32 0) (y 33 0) (y 34 0) (y 35 0) (y 36 0) (y 37) (y 38) (y 39)) H := hP
          have hD : va_D A (moW T q n (x 0) (x 1) (mkF (x 2) (x 18 0)) (cdF (x 2) (x 18 0)) (spa (x 3) (x 19 0 * 132) (132) (fun k => x 0 (201 + k))) (x 4) (x 11 0) (x 12 0) 333 (x 14 0) (x 15 0) (x 16 0) (x 17 0) (x 18 0) ((x 19 0) + 1) (x 20 0) (x 21 0) (x 22 0) (y 31 0) (y 32 0) (y 33 0) (y 34 0) (y 35 0) (y 36 0) (y 37) (y 38) (y 39)) := hD
          refine cx_iconst hx hb d_MO_print_68 ?_
          exact hret ((up (up (up x 3 (spa (x 3) (x 19 0 * 132) (132) (fun k => x 0 (201 + k)))) 13 (cst 333)) 19 (cst ((x 19 0) + 1)), y) : SX × SX) (⟨pst_of (by unfold filS gof; rw [if_neg (by omega), if_pos rfl]; exact congrArg (Prod.mk 0) (up_swap _ _ _ (by decide))) (show okX (up (up (up x 3 (spa (x 3) (x 19 0 * 132) (132) (fun k => x 0 (201 + k)))) 13 (cst 333)) 19 (cst ((x 19 0) + 1))) from ⟨hX.1, (show okR (x 11 0) (x 12 0) 333 (x 14 0) (x 15 0) (x 16 0) (x 17 0) (x 18 0) ((x 19 0) + 1) (x 20 0) by have h8 := hX.2.1; unfold okR at h8 ⊢; omega), hX.2.2⟩), ⟨rfl, rfl⟩⟩) hP hD hS d_MO_print_69
        · refine lv_aload_n hx hb d_MO_print_20 rfl (lv_at hl 1 rfl) ?_
          refine va_get (D := D) (ci := 5) (v := .ref (q 25)) (C := R_MO) (T := T_MO) (N := 28) hx hb hT lays_MO hown hK hP 0 rfl rfl 22 (by decide) (hT _ tw_658) (fun _ h9 => h9) rfl d_MO_print_21 ?_
          refine cx_sipush hx hb d_MO_print_24 rfl ?_
          refine lv_aload_n hx hb d_MO_print_27 rfl (lv_at hl 1 rfl) ?_
          refine va_get (D := D) (ci := 5) (v := .int (iI (x 19 0))) (C := R_MO) (T := T_MO) (N := 28) hx hb hT lays_MO hown hK hP 0 rfl rfl 21 (by decide) (hT _ tw_657) (fun _ h9 => h9) rfl d_MO_print_28 ?_
          refine cx_imul hx hb d_MO_print_31 ?_
          refine lv_iload_n hx hb d_MO_print_32 rfl (lv_at hl 0 rfl) ?_
          refine cx_iadd hx hb d_MO_print_33 ?_
          refine lv_aload_n hx hb d_MO_print_34 rfl (lv_at hl 1 rfl) ?_
          refine va_get (D := D) (ci := 5) (v := .ref (q 21)) (C := R_MO) (T := T_MO) (N := 28) hx hb hT lays_MO hown hK hP 0 rfl rfl 2 (by decide) (hT _ tw_638) (fun _ h9 => h9) rfl d_MO_print_35 ?_
          refine cx_sipush hx hb d_MO_print_38 rfl ?_
          refine lv_iload_n hx hb d_MO_print_41 rfl (lv_at hl 0 rfl) ?_
          refine cx_iadd hx hb d_MO_print_42 ?_
          refine cx_bald (g := iF (x 0)) hx hb hK hP 1 1 rfl rfl (by omega) (by omega) d_MO_print_43 ?_
          have hc43 := hC.1 (201 + j)
          refine cx_bast (g := iF (spa (x 3) (x 19 0 * 132) (j) (fun k => x 0 (201 + k)))) (g' := iF (fu (spa (x 3) (x 19 0 * 132) (j) (fun k => x 0 (201 + k))) ((132 * (x 19 0)) + j) ((x 0) (201 + j)))) hx hb hK hP hD hS 5 1 rfl rfl (by omega) (by omega) (by omega) (fun j => iF_put j) d_MO_print_44 (fun H locs hP hD hS => ?_)
          have hP : va_P D vwCl (moW T q n (x 0) (x 1) (mkF (x 2) (x 18 0)) (cdF (x 2) (x 18 0)) (fu (spa (x 3) (x 19 0 * 132) (j) (fun k => x 0 (201 + k))) ((132 * (x 19 0)) + j) ((x 0) (201 + j))) (x 4) (x 11 0) (x 12 0) (x 13 0) (x 14 0) (x 15 0) (x 16 0) (x 17 0) (x 18 0) (x 19 0) (x 20 0) (x 21 0) (x 22 0) (y 31 0) (y 32 0) (y 33 0) (y 34 0) (y 35 0) (y 36 0) (y 37) (y 38) (y 39)) H := hP
          have hD : va_D A (moW T q n (x 0) (x 1) (mkF (x 2) (x 18 0)) (cdF (x 2) (x 18 0)) (fu (spa (x 3) (x 19 0 * 132) (j) (fun k => x 0 (201 + k))) ((132 * (x 19 0)) + j) ((x 0) (201 + j))) (x 4) (x 11 0) (x 12 0) (x 13 0) (x 14 0) (x 15 0) (x 16 0) (x 17 0) (x 18 0) (x 19 0) (x 20 0) (x 21 0) (x 22 0) (y 31 0) (y 32 0) (y 33 0) (y 34 0) (y 35 0) (y 36 0) (y 37) (y 38) (y 39)) := hD
          refine cx_iinc (k := 0) (lv' := [(1, .int (iI (j + 1))), (0, .ref (q 20))]) hx hb d_MO_print_45 hl rfl (by decide) rfl (fun ls hl => ?_)
          refine lv_goto (tgt := 13) hx hb d_MO_print_48 rfl ?_
          rw [spa_step (F := fun k => x 0 (201 + k)) (k2 := j + 1) (by omega) (by omega) rfl rfl] at hP hD
          exact ih1 (j + 1) _ _ _ (by omega) hP hD hS (lv_sub hl [0, 1] rfl)
    rw [← spa_0 (x 3) (x 19 0 * 132) (fun k => x 0 (201 + k))] at hP hD
    exact L1 200 0 _ _ _ (by omega) hP hD hS (lv_sub hl [0, 1] rfl)
  · refine cx_iconst hx hb d_MO_print_9 ?_
    exact hret ((x, y) : SX × SX) (⟨pst_of (by unfold filS; rw [if_pos (by omega)]) hX, ⟨rfl, rfl⟩⟩) hP hD hS d_MO_print_10

set_option maxHeartbeats 4000000 in
set_option maxRecDepth 100000 in
theorem c_MO_punchCard (l : Launch) (D : va_G) (T : Nat → ClassId) (sz : Nat) (q : Nat → Nat) (n : Nat) (hn : 400 ≤ n ∧ n ≤ 2000) (x y : SX) (hX : okX x) : MI l y_MO_punchCard (wY y_MO_punchCard b_MO_punchCard 2 (some .int)) (rmK 0) D vwCl (tyL T) nwL sz [.ref (q 20)] (moW T q n (x 0) (x 1) (mkF (x 2) (x 18 0)) (cdF (x 2) (x 18 0)) (x 3) (x 4) (x 11 0) (x 12 0) (x 13 0) (x 14 0) (x 15 0) (x 16 0) (x 17 0) (x 18 0) (x 19 0) (x 20 0) (x 21 0) (x 22 0) (y 31 0) (y 32 0) (y 33 0) (y 34 0) (y 35 0) (y 36 0) (y 37) (y 38) (y 39)) (fun r (u : SX × SX) => pst (filS 4 20 20 101 80 0 x) r u.1 ∧ (u.2 31 = y 31 ∧ u.2 33 = y 33)) (fun (u : SX × SX) => moX T q n u.1 u.2) := by
  refine cx_inI (by decide) rfl (Nat.le_of_ble_eq_true rfl) ?_
  intro p e s m below meth cd ls A Q hx hb hml hT hown hret hP hK hD hN hS hA hl
  have hown : s.vm.findClass R_MO = some m.cls := hown
  have hl : lv_has ls 2 [(0, .ref (q 20))] := hl
  have hC := hX.1
  have hR0 := hX.2.1
  have hF := hX.2.2
  unfold okR at hR0
  refine lv_aload_n hx hb d_MO_punchCard_0 rfl (lv_at hl 0 rfl) ?_
  refine va_get (D := D) (ci := 5) (v := .int (iI (x 20 0))) (C := R_MO) (T := T_MO) (N := 28) hx hb hT lays_MO hown hK hP 0 rfl rfl 23 (by decide) (hT _ tw_659) (fun _ h9 => h9) rfl d_MO_punchCard_1 ?_
  refine cx_bipush hx hb d_MO_punchCard_4 rfl ?_
  refine cx_icmp_ne (tgt := 11) hx hb d_MO_punchCard_6 rfl (by omega) (by omega) (fun h6 => ?_) (fun h6 => ?_)
  · refine cx_iconst hx hb d_MO_punchCard_11 ?_
    refine lv_istore_n (lv' := [(1, .int (iI (0))), (0, .ref (q 20))]) hx hb d_MO_punchCard_12 rfl hl (by decide) rfl (fun ls hl => ?_)
    have L1 : ∀ (k_ : Nat) (j : Int) (H : Heap) (locs : List Loc) (ls : Array Slot), (0 ≤ j ∧ j ≤ 80 ∧ 80 - j < k_) → va_P D vwCl (moW T q n (x 0) (x 1) (mkF (x 2) (x 18 0)) (cdF (x 2) (x 18 0)) (x 3) (spa (x 4) (x 20 0 * 80) (j) (fun k => x 0 (101 + k))) (x 11 0) (x 12 0) (x 13 0) (x 14 0) (x 15 0) (x 16 0) (x 17 0) (x 18 0) (x 19 0) (x 20 0) (x 21 0) (x 22 0) (y 31 0) (y 32 0) (y 33 0) (y 34 0) (y 35 0) (y 36 0) (y 37) (y 38) (y 39)) H → va_D A (moW T q n (x 0) (x 1) (mkF (x 2) (x 18 0)) (cdF (x 2) (x 18 0)) (x 3) (spa (x 4) (x 20 0 * 80) (j) (fun k => x 0 (101 + k))) (x 11 0) (x 12 0) (x 13 0) (x 14 0) (x 15 0) (x 16 0) (x 17 0) (x 18 0) (x 19 0) (x 20 0) (x 21 0) (x 22 0) (y 31 0) (y 32 0) (y 33 0) (y 34 0) (y 35 0) (y 36 0) (y 37) (y 38) (y 39)) → va_S A s.heap H locs → lv_has ls 2 [(1, .int (iI (j))), (0, .ref (q 20))] → W p l e (rmK 0) s m ([.ref (q 20)] : List Value).toArray below meth cd H locs 0 0 Q (F0 m 13 ls []) := by
      intro k_
      induction k_ with
      | zero => intro j H locs ls hj _ _ _ _; exact absurd hj (by omega)
      | succ k_ ih1 =>
        intro j H locs ls hj hP hD hS hl
        refine lv_iload_n hx hb d_MO_punchCard_13 rfl (lv_at hl 0 rfl) ?_
        refine cx_bipush hx hb d_MO_punchCard_14 rfl ?_
        refine cx_icmp_ge (tgt := 48) hx hb d_MO_punchCard_16 rfl (by omega) (by omega) (fun h16 => ?_) (fun h16 => ?_)
        · obtain rfl : j = 80 := by omega
          refine lv_aload_n hx hb d_MO_punchCard_48 rfl (lv_at hl 1 rfl) ?_
          refine lv_dup hx hb d_MO_punchCard_49 rfl ?_
          refine va_get (D := D) (ci := 5) (v := .int (iI (x 20 0))) (C := R_MO) (T := T_MO) (N := 28) hx hb hT lays_MO hown hK hP 0 rfl rfl 23 (by decide) (hT _ tw_659) (fun _ h9 => h9) rfl d_MO_punchCard_50 ?_
          refine cx_iconst hx hb d_MO_punchCard_53 ?_
          refine cx_iadd hx hb d_MO_punchCard_54 ?_
          refine va_put (D := D) (ci := 5) (v := .int (iI ((x 20 0) + 1))) (ty := .int) (C := R_MO) (T := T_MO) (N := 28) hx hb hT lays_MO t_MO t_MO_ok n_MO hown hK hP hD hS 0 rfl rfl 23 (by decide) (hT _ tw_659) (fun _ h9 => h9) rfl (by decide +kernel) rfl rfl (Nat.le_of_ble_eq_true rfl) d_MO_punchCard_55 (fun H locs hP hD hS => ?_)
          have hP : va_P D vwCl (moW T q n (x 0) (x 1) (mkF (x 2) (x 18 0)) (cdF (x 2) (x 18 0)) (x 3) (spa (x 4) (x 20 0 * 80) (80) (fun k => x 0 (101 + k))) (x 11 0) (x 12 0) (x 13 0) (x 14 0) (x 15 0) (x 16 0) (x 17 0) (x 18 0) (x 19 0) ((x 20 0) + 1) (x 21 0) (x 22 0) (y 31 0) (y 32 0) (y 33 0) (y 34 0) (y 35 0) (y 36 0) (y 37) (y 38) (y 39)) H := hP
          have hD : va_D A (moW T q n (x 0) (x 1) (mkF (x 2) (x 18 0)) (cdF (x 2) (x 18 0)) (x 3) (spa (x 4) (x 20 0 * 80) (80) (fun k => x 0 (101 + k))) (x 11 0) (x 12 0) (x 13 0) (x 14 0) (x 15 0) (x 16 0) (x 17 0) (x 18 0) (x 19 0) ((x 20 0) + 1) (x 21 0) (x 22 0) (y 31 0) (y 32 0) (y 33 0) (y 34 0) (y 35 0) (y 36 0) (y 37) (y 38) (y 39)) := hD
          refine lv_aload_n hx hb d_MO_punchCard_58 rfl (lv_at hl 1 rfl) ?_
          refine cx_sipush hx hb d_MO_punchCard_59 rfl ?_
          refine va_put (D := D) (ci := 5) (v := .int (iI (181))) (ty := .int) (C := R_MO) (T := T_MO) (N := 28) hx hb hT lays_MO t_MO t_MO_ok n_MO hown hK hP hD hS 0 rfl rfl 6 (by decide) (hT _ tw_642) (fun _ h9 => h9) rfl (by decide +kernel) rfl rfl (Nat.le_of_ble_eq_true rfl) d_MO_punchCard_62 (fun H locs hP hD hS => ?_)
          have hP : va_P D vwCl (moW T q n (x 0) (x 1) (mkF (x 2) (x 18 0)) (cdF (x 2) (x 18 0)) (x 3) (spa (x 4) (x 20 0 * 80) (80) (fun k => x 0 (101 + k))) (x 11 0) (x 12 0) 181 (x 14 0) (x 15 0) (x 16 0) (x 17 0) (x 18 0) (x 19 0) ((x 20 0) + 1) (x 21 0) (x 22 0) (y 31 0) (y 32 0) (y 33 0) (y 34 0) (y 35 0) (y 36 0) (y 37) (y 38) (y 39)) H := hP
          have hD : va_D A (moW T q n (x 0) (x 1) (mkF (x 2) (x 18 0)) (cdF (x 2) (x 18 0)) (x 3) (spa (x 4) (x 20 0 * 80) (80) (fun k => x 0 (101 + k))) (x 11 0) (x 12 0) 181 (x 14 0) (x 15 0) (x 16 0) (x 17 0) (x 18 0) (x 19 0) ((x 20 0) + 1) (x 21 0) (x 22 0) (y 31 0) (y 32 0) (y 33 0) (y 34 0) (y 35 0) (y 36 0) (y 37) (y 38) (y 39)) := hD
          refine cx_iconst hx hb d_MO_punchCard_65 ?_
          exact hret ((up (up (up x 4 (spa (x 4) (x 20 0 * 80) (80) (fun k => x 0 (101 + k)))) 13 (cst 181)) 20 (cst ((x 20 0) + 1)), y) : SX × SX) (⟨pst_of (by unfold filS gof; rw [if_neg (by omega), if_pos rfl]; exact congrArg (Prod.mk 0) (up_swap _ _ _ (by decide))) (show okX (up (up (up x 4 (spa (x 4) (x 20 0 * 80) (80) (fun k => x 0 (101 + k)))) 13 (cst 181)) 20 (cst ((x 20 0) + 1))) from ⟨hX.1, (show okR (x 11 0) (x 12 0) 181 (x 14 0) (x 15 0) (x 16 0) (x 17 0) (x 18 0) (x 19 0) ((x 20 0) + 1) by have h8 := hX.2.1; unfold okR at h8 ⊢; omega), hX.2.2⟩), ⟨rfl, rfl⟩⟩) hP hD hS d_MO_punchCard_66
        · refine lv_aload_n hx hb d_MO_punchCard_19 rfl (lv_at hl 1 rfl) ?_
          refine va_get (D := D) (ci := 5) (v := .ref (q 26)) (C := R_MO) (T := T_MO) (N := 28) hx hb hT lays_MO hown hK hP 0 rfl rfl 24 (by decide) (hT _ tw_660) (fun _ h9 => h9) rfl d_MO_punchCard_20 ?_
          refine cx_bipush hx hb d_MO_punchCard_23 rfl ?_
          refine lv_aload_n hx hb d_MO_punchCard_25 rfl (lv_at hl 1 rfl) ?_
          refine va_get (D := D) (ci := 5) (v := .int (iI (x 20 0))) (C := R_MO) (T := T_MO) (N := 28) hx hb hT lays_MO hown hK hP 0 rfl rfl 23 (by decide) (hT _ tw_659) (fun _ h9 => h9) rfl d_MO_punchCard_26 ?_
          refine cx_imul hx hb d_MO_punchCard_29 ?_
          refine lv_iload_n hx hb d_MO_punchCard_30 rfl (lv_at hl 0 rfl) ?_
          refine cx_iadd hx hb d_MO_punchCard_31 ?_
          refine lv_aload_n hx hb d_MO_punchCard_32 rfl (lv_at hl 1 rfl) ?_
          refine va_get (D := D) (ci := 5) (v := .ref (q 21)) (C := R_MO) (T := T_MO) (N := 28) hx hb hT lays_MO hown hK hP 0 rfl rfl 2 (by decide) (hT _ tw_638) (fun _ h9 => h9) rfl d_MO_punchCard_33 ?_
          refine cx_bipush hx hb d_MO_punchCard_36 rfl ?_
          refine lv_iload_n hx hb d_MO_punchCard_38 rfl (lv_at hl 0 rfl) ?_
          refine cx_iadd hx hb d_MO_punchCard_39 ?_
          refine cx_bald (g := iF (x 0)) hx hb hK hP 1 1 rfl rfl (by omega) (by omega) d_MO_punchCard_40 ?_
          have hc40 := hC.1 (101 + j)
          refine cx_bast (g := iF (spa (x 4) (x 20 0 * 80) (j) (fun k => x 0 (101 + k)))) (g' := iF (fu (spa (x 4) (x 20 0 * 80) (j) (fun k => x 0 (101 + k))) ((80 * (x 20 0)) + j) ((x 0) (101 + j)))) hx hb hK hP hD hS 6 1 rfl rfl (by omega) (by omega) (by omega) (fun j => iF_put j) d_MO_punchCard_41 (fun H locs hP hD hS => ?_)
          have hP : va_P D vwCl (moW T q n (x 0) (x 1) (mkF (x 2) (x 18 0)) (cdF (x 2) (x 18 0)) (x 3) (fu (spa (x 4) (x 20 0 * 80) (j) (fun k => x 0 (101 + k))) ((80 * (x 20 0)) + j) ((x 0) (101 + j))) (x 11 0) (x 12 0) (x 13 0) (x 14 0) (x 15 0) (x 16 0) (x 17 0) (x 18 0) (x 19 0) (x 20 0) (x 21 0) (x 22 0) (y 31 0) (y 32 0) (y 33 0) (y 34 0) (y 35 0) (y 36 0) (y 37) (y 38) (y 39)) H := hP
          have hD : va_D A (moW T q n (x 0) (x 1) (mkF (x 2) (x 18 0)) (cdF (x 2) (x 18 0)) (x 3) (fu (spa (x 4) (x 20 0 * 80) (j) (fun k => x 0 (101 + k))) ((80 * (x 20 0)) + j) ((x 0) (101 + j))) (x 11 0) (x 12 0) (x 13 0) (x 14 0) (x 15 0) (x 16 0) (x 17 0) (x 18 0) (x 19 0) (x 20 0) (x 21 0) (x 22 0) (y 31 0) (y 32 0) (y 33 0) (y 34 0) (y 35 0) (y 36 0) (y 37) (y 38) (y 39)) := hD
          refine cx_iinc (k := 0) (lv' := [(1, .int (iI (j + 1))), (0, .ref (q 20))]) hx hb d_MO_punchCard_42 hl rfl (by decide) rfl (fun ls hl => ?_)
          refine lv_goto (tgt := 13) hx hb d_MO_punchCard_45 rfl ?_
          rw [spa_step (F := fun k => x 0 (101 + k)) (k2 := j + 1) (by omega) (by omega) rfl rfl] at hP hD
          exact ih1 (j + 1) _ _ _ (by omega) hP hD hS (lv_sub hl [0, 1] rfl)
    rw [← spa_0 (x 4) (x 20 0 * 80) (fun k => x 0 (101 + k))] at hP hD
    exact L1 200 0 _ _ _ (by omega) hP hD hS (lv_sub hl [0, 1] rfl)
  · refine cx_iconst hx hb d_MO_punchCard_9 ?_
    exact hret ((x, y) : SX × SX) (⟨pst_of (by unfold filS; rw [if_pos (by omega)]) hX, ⟨rfl, rfl⟩⟩) hP hD hS d_MO_punchCard_10
