/-! the reference: edit, branches -/
def zmM (ch : Int → Int) (a b : Int) : Nat → Int → Int
  | 0 => ch
  | k + 1 => zmN ch a b k
theorem zmM_s0 {ch : Int → Int} {a b : Int} : fu (zmM ch a b (0 : Int).toNat) (b - 0) (zmM ch a b (0 : Int).toNat a % 16) = zmM ch a b ((0 : Int) + 1).toNat := by
  rw [Int.sub_zero]; rfl
theorem zmM_s {ch : Int → Int} {a b j : Int} (h : 1 ≤ j) : fu (zmM ch a b j.toNat) (b - j) (zmM ch a b j.toNat (a - j)) = zmM ch a b (j + 1).toNat := by
  have h1 := zmN_step (ch := ch) (a := a) (b := b) h
  rw [show j.toNat = (j - 1).toNat + 1 by omega, show (j + 1).toNat = (j + 1 - 1).toNat + 1 by omega]
  exact h1
theorem zmM_n {ch : Int → Int} {a b j : Int} (h : 1 ≤ j) : zmM ch a b j.toNat = zmN ch a b (j - 1).toNat := by
  rw [show j.toNat = (j - 1).toNat + 1 by omega]; rfl
theorem spZ_go {b z : Int} {c : Int → Int} (h : z ≤ b) (hs : c z = 10 ∨ c z = 0 ∨ c z = 27) : spZ b (b - z + 1).toNat c = spZ b (b - (z + 1) + 1).toNat (fu c z 0) := by
  rw [spZ_step (by omega), show b - (b - z) = z by omega, if_pos hs, show b - (z + 1) + 1 = b - z by omega]
theorem spZ_no {b z : Int} {c : Int → Int} (h : z ≤ b) (hs : ¬ (c z = 10 ∨ c z = 0 ∨ c z = 27)) : spZ b (b - z + 1).toNat c = c := by
  rw [spZ_step (by omega), show b - (b - z) = z by omega, if_neg hs]
theorem spZ_e {b z : Int} {c : Int → Int} (h : z = b + 1) : spZ b (b - z + 1).toNat c = c := by
  rw [show (b - z + 1).toNat = 0 by omega]; rfl
theorem spZ_A {t : Int} {s0 s1 c : Int → Int} (hs : (t = 1 ∧ s0 = s1) ∨ (t = 0 ∧ s0 = c)) (h : t = 1 → s1 = c) : s0 = c := by
  rcases hs with ⟨h1, h2⟩ | ⟨_, h2⟩
  · rw [h2, h h1]
  · exact h2
theorem ind_G {x : SX} {m : Int} (ho : x 15 0 = 0 ∨ x 15 0 = 1) (hl : x 16 0 = 0 ∨ x 16 0 = 1) : ind m x = if (m = 0 ∨ (m = 17 ∧ ¬ x 14 0 = 0) ∨ (m = 18 ∧ x 14 0 = 0) ∨ (m = 19 ∧ x 14 0 < 0) ∨ (m = 20 ∧ 0 < x 14 0) ∨ (m = 25 ∧ ¬ x 15 0 = 0) ∨ (m = 49 ∧ ¬ x 16 0 = 0)) then 1 else 0 := by
  unfold ind
  repeat (first | omega | split)
theorem asd_G {m c v : Int} (hm : m = 0 ∨ m = 1) : asd m c v = if (v = 1 ∨ v = 3 ∨ v = 51 ∨ v = 35 ∨ v = 19) ∧ m = 1 ∨ (v = 2 ∨ v = 50 ∨ v = 34 ∨ v = 18 ∨ v = 3 ∨ v = 51 ∨ v = 35 ∨ v = 19) ∧ zn c = zn v then 1 else 0 := by
  unfold asd
  repeat (first | omega | split)

set_option maxHeartbeats 4000000 in
set_option maxRecDepth 100000 in
theorem c_MO_edit (l : Launch) (D : va_G) (T : Nat → ClassId) (sz : Nat) (q : Nat → Nat) (n : Nat) (hn : 400 ≤ n ∧ n ≤ 2000) (x y : SX) (hX : okX x) : MI l y_MO_edit (wY y_MO_edit b_MO_edit 4 (some .int)) (rmK 2) D vwCl (tyL T) nwL sz [.ref (q 20)] (moW T q n (x 0) (x 1) (mkF (x 2) (x 18 0)) (cdF (x 2) (x 18 0)) (x 3) (x 4) (x 11 0) (x 12 0) (x 13 0) (x 14 0) (x 15 0) (x 16 0) (x 17 0) (x 18 0) (x 19 0) (x 20 0) (x 21 0) (x 22 0) (y 31 0) (y 32 0) (y 33 0) (y 34 0) (y 35 0) (y 36 0) (y 37) (y 38) (y 39)) (fun r (u : SX × SX) => pst (supS n x) r u.1 ∧ (u.2 31 = y 31 ∧ u.2 33 = y 33)) (fun (u : SX × SX) => moX T q n u.1 u.2) := by
  refine cx_inI (by decide) rfl (Nat.le_of_ble_eq_true rfl) ?_
  intro p e s m below meth cd ls A Q hx hb hml hT hown hret hP hK hD hN hS hA hl
  have hown : s.vm.findClass R_MO = some m.cls := hown
  have hl : lv_has ls 4 [(0, .ref (q 20))] := hl
  have hC := hX.1
  have hR0 := hX.2.1
  have hF := hX.2.2
  unfold okR at hR0
  refine lv_aload_n hx hb d_MO_edit_0 rfl (lv_at hl 0 rfl) ?_
  refine lv_aload_n hx hb d_MO_edit_1 rfl (lv_at hl 0 rfl) ?_
  refine va_get (D := D) (ci := 5) (v := .int (iI (x 12 0))) (C := R_MO) (T := T_MO) (N := 28) hx hb hT lays_MO hown hK hP 0 rfl rfl 5 (by decide) (hT _ tw_641) (fun _ h9 => h9) rfl d_MO_edit_2 ?_
  refine cx_sipush hx hb d_MO_edit_5 rfl ?_
  refine cx_cI (ws2 := fun _ => moW T q n (x 0) (x 1) (mkF (x 2) (x 18 0)) (cdF (x 2) (x 18 0)) (x 3) (x 4) (x 11 0) (x 12 0) (x 13 0) (x 14 0) (x 15 0) (x 16 0) (x 17 0) (x 18 0) (x 19 0) (x 20 0) (x 21 0) (x 22 0) (y 31 0) (y 32 0) (y 33 0) (y 34 0) (y 35 0) (y 36 0) (y 37) (y 38) (y 39)) (cx_rV (q0 := 0) (ci := 5) (rest := []) (As := [.int (iI (x 12 0)), .int (iI (3000))]) hx hb hml hown hT hK hN hP hD hl.1 tw_786 k_MO_field (c_MO_field l D T s.heap.size q n hn x y hX (x 12 0) 3000 (by omega) (by omega)) ⟨by decide, by decide⟩ ⟨rfl, rfl⟩ [0, 1, 2, 3, 4, 5, 6, 7, 8, 9] (by decide) rfl rfl rfl rfl rfl (Nat.le_of_ble_eq_true rfl) ⟨Nat.zero_le _, Nat.zero_le _⟩ d_MO_edit_8) hP hD hS hA [0, 1, 2, 3, 4, 5, 6, 7, 8, 9] [] [0, 1, 2, 3, 4, 5, 6, 7, 8, 9] rfl (wr := []) rfl (by decide) (by decide) (fun _ => rfl) (by decide) (fun r u_ H locs hq8 hP hD hS => ?_)
  subst hq8
  refine cx_eq (y := iI (fld n (x 1) (x 12 0) 3000 2001 1)) rfl ?_
  refine lv_istore_n (lv' := [(1, .int (iI (fld n (x 1) (x 12 0) 3000 2001 1))), (0, .ref (q 20))]) hx hb d_MO_edit_11 rfl hl (by decide) rfl (fun ls hl => ?_)
  obtain ⟨k, hk⟩ : ∃ z, z = fld n (x 1) (x 12 0) 3000 2001 1 := ⟨_, rfl⟩
  rw [← hk] at hl
  have hk1 := fld_in hk
  refine lv_iload_n hx hb d_MO_edit_12 rfl (lv_at hl 0 rfl) ?_
  refine cx_if_eq (tgt := 42) hx hb d_MO_edit_13 rfl (by omega) (fun h13 => ?_) (fun h13 => ?_)
  · refine cx_iconst hx hb d_MO_edit_42 ?_
    exact hret ((x, y) : SX × SX) (⟨pst_of (by unfold supS; rw [← fld_3000 (by omega), ← hk]; unfold supK; rw [if_pos (by omega)]) hX, ⟨rfl, rfl⟩⟩) hP hD hS d_MO_edit_43
  · refine lv_aload_n hx hb d_MO_edit_16 rfl (lv_at hl 1 rfl) ?_
    refine lv_aload_n hx hb d_MO_edit_17 rfl (lv_at hl 1 rfl) ?_
    refine va_get (D := D) (ci := 5) (v := .int (iI (x 13 0))) (C := R_MO) (T := T_MO) (N := 28) hx hb hT lays_MO hown hK hP 0 rfl rfl 6 (by decide) (hT _ tw_642) (fun _ h9 => h9) rfl d_MO_edit_18 ?_
    refine cx_cI (ws2 := fun _ => moW T q n (x 0) (x 1) (mkF (x 2) (x 18 0)) (cdF (x 2) (x 18 0)) (x 3) (x 4) (x 11 0) (x 12 0) (x 13 0) (x 14 0) (x 15 0) (x 16 0) (x 17 0) (x 18 0) (x 19 0) (x 20 0) (x 21 0) (x 22 0) (y 31 0) (y 32 0) (y 33 0) (y 34 0) (y 35 0) (y 36 0) (y 37) (y 38) (y 39)) (cx_rV (q0 := 0) (ci := 5) (rest := []) (As := [.int (iI (x 13 0))]) hx hb hml hown hT hK hN hP hD hl.1 tw_731 k_MO_is (c_MO_is l D T H.size q n hn x y hX (x 13 0) (by omega)) ⟨by decide, by decide⟩ ⟨rfl, rfl⟩ [0, 1, 2, 3, 4, 5, 6, 7, 8, 9] (by decide) rfl rfl rfl rfl rfl (Nat.le_of_ble_eq_true rfl) ⟨Nat.zero_le _, Nat.zero_le _⟩ d_MO_edit_21) hP hD hS hA [0, 1, 2, 3, 4, 5, 6, 7, 8, 9] [] [0, 1, 2, 3, 4, 5, 6, 7, 8, 9] rfl (wr := []) rfl (by decide) (by decide) (fun _ => rfl) (by decide) (fun r u_ H locs hq21 hP hD hS => ?_)
    rcases hq21 with ⟨rfl, h21⟩ | ⟨rfl, h21⟩
    · refine cx_if_eq (tgt := 42) hx hb d_MO_edit_24 rfl (by omega) (fun h0 => absurd h0 (by decide)) (fun _ => ?_)
      refine lv_aload_n hx hb d_MO_edit_27 rfl (lv_at hl 1 rfl) ?_
      refine lv_aload_n hx hb d_MO_edit_28 rfl (lv_at hl 1 rfl) ?_
      refine va_get (D := D) (ci := 5) (v := .int (iI (x 13 0))) (C := R_MO) (T := T_MO) (N := 28) hx hb hT lays_MO hown hK hP 0 rfl rfl 6 (by decide) (hT _ tw_642) (fun _ h9 => h9) rfl d_MO_edit_29 ?_
      refine lv_iload_n hx hb d_MO_edit_32 rfl (lv_at hl 0 rfl) ?_
      refine cx_isub hx hb d_MO_edit_33 ?_
      refine cx_iconst hx hb d_MO_edit_34 ?_
      refine cx_iadd hx hb d_MO_edit_35 ?_
      refine cx_cI (ws2 := fun _ => moW T q n (x 0) (x 1) (mkF (x 2) (x 18 0)) (cdF (x 2) (x 18 0)) (x 3) (x 4) (x 11 0) (x 12 0) (x 13 0) (x 14 0) (x 15 0) (x 16 0) (x 17 0) (x 18 0) (x 19 0) (x 20 0) (x 21 0) (x 22 0) (y 31 0) (y 32 0) (y 33 0) (y 34 0) (y 35 0) (y 36 0) (y 37) (y 38) (y 39)) (cx_rV (q0 := 0) (ci := 5) (rest := []) (As := [.int (iI (((x 13 0) - k) + 1))]) hx hb hml hown hT hK hN hP hD hl.1 tw_731 k_MO_is (c_MO_is l D T H.size q n hn x y hX (((x 13 0) - k) + 1) (by omega)) ⟨by decide, by decide⟩ ⟨rfl, rfl⟩ [0, 1, 2, 3, 4, 5, 6, 7, 8, 9] (by decide) rfl rfl rfl rfl rfl (Nat.le_of_ble_eq_true rfl) ⟨Nat.zero_le _, Nat.zero_le _⟩ d_MO_edit_36) hP hD hS hA [0, 1, 2, 3, 4, 5, 6, 7, 8, 9] [] [0, 1, 2, 3, 4, 5, 6, 7, 8, 9] rfl (wr := []) rfl (by decide) (by decide) (fun _ => rfl) (by decide) (fun r u_ H locs hq36 hP hD hS => ?_)
      rcases hq36 with ⟨rfl, h36⟩ | ⟨rfl, h36⟩
      · refine cx_if_ne (tgt := 44) hx hb d_MO_edit_39 rfl (by omega) (fun _ => ?_) (fun h0 => absurd h0 (by decide))
        refine cx_iconst hx hb d_MO_edit_44 ?_
        refine lv_istore_n (lv' := [(2, .int (iI (0))), (1, .int (iI (k))), (0, .ref (q 20))]) hx hb d_MO_edit_45 rfl hl (by decide) rfl (fun ls hl => ?_)
        have L1 : ∀ (k_ : Nat) (j : Int) (H : Heap) (locs : List Loc) (ls : Array Slot), (0 ≤ j ∧ j ≤ k ∧ k - j < k_) → (okC (zmM (x 0) (x 12 0) (x 13 0) (j).toNat) (x 1)) → va_P D vwCl (moW T q n (zmM (x 0) (x 12 0) (x 13 0) (j).toNat) (x 1) (mkF (x 2) (x 18 0)) (cdF (x 2) (x 18 0)) (x 3) (x 4) (x 11 0) (x 12 0) (x 13 0) (x 14 0) (x 15 0) (x 16 0) (x 17 0) (x 18 0) (x 19 0) (x 20 0) (x 21 0) (x 22 0) (y 31 0) (y 32 0) (y 33 0) (y 34 0) (y 35 0) (y 36 0) (y 37) (y 38) (y 39)) H → va_D A (moW T q n (zmM (x 0) (x 12 0) (x 13 0) (j).toNat) (x 1) (mkF (x 2) (x 18 0)) (cdF (x 2) (x 18 0)) (x 3) (x 4) (x 11 0) (x 12 0) (x 13 0) (x 14 0) (x 15 0) (x 16 0) (x 17 0) (x 18 0) (x 19 0) (x 20 0) (x 21 0) (x 22 0) (y 31 0) (y 32 0) (y 33 0) (y 34 0) (y 35 0) (y 36 0) (y 37) (y 38) (y 39)) → va_S A s.heap H locs → lv_has ls 4 [(2, .int (iI (j))), (1, .int (iI (k))), (0, .ref (q 20))] → W p l e (rmK 2) s m ([.ref (q 20)] : List Value).toArray below meth cd H locs 0 0 Q (F0 m 46 ls []) := by
          intro k_
          induction k_ with
          | zero => intro j H locs ls hj hC _ _ _ _; exact absurd hj (by omega)
          | succ k_ ih1 =>
            intro j H locs ls hj hC hP hD hS hl
            refine lv_iload_n hx hb d_MO_edit_46 rfl (lv_at hl 0 rfl) ?_
            refine lv_iload_n hx hb d_MO_edit_47 rfl (lv_at hl 1 rfl) ?_
            refine cx_icmp_ge (tgt := 99) hx hb d_MO_edit_48 rfl (by omega) (by omega) (fun h48 => ?_) (fun h48 => ?_)
            · obtain rfl : j = k := by omega
              rw [zmM_n (by omega)] at hP hD hC
              refine cx_iconst hx hb d_MO_edit_99 ?_
              refine lv_istore_n (lv' := [(2, .int (iI (1))), (1, .int (iI (j))), (0, .ref (q 20))]) hx hb d_MO_edit_100 rfl hl (by decide) rfl (fun ls hl => ?_)
              refine lv_aload_n hx hb d_MO_edit_101 rfl (lv_at hl 2 rfl) ?_
              refine va_get (D := D) (ci := 5) (v := .int (iI (x 13 0))) (C := R_MO) (T := T_MO) (N := 28) hx hb hT lays_MO hown hK hP 0 rfl rfl 6 (by decide) (hT _ tw_642) (fun _ h9 => h9) rfl d_MO_edit_102 ?_
              refine lv_iload_n hx hb d_MO_edit_105 rfl (lv_at hl 1 rfl) ?_
              refine cx_isub hx hb d_MO_edit_106 ?_
              refine cx_iconst hx hb d_MO_edit_107 ?_
              refine cx_iadd hx hb d_MO_edit_108 ?_
              refine lv_istore_n (lv' := [(3, .int (iI (((x 13 0) - j) + 1))), (2, .int (iI (1))), (1, .int (iI (j))), (0, .ref (q 20))]) hx hb d_MO_edit_109 rfl hl (by decide) rfl (fun ls hl => ?_)
              have L2 : ∀ (k_ : Nat) (z : Int) (t : Int) (c : Int → Int) (H : Heap) (locs : List Loc) (ls : Array Slot), (x 13 0 - j + 1 ≤ z ∧ z ≤ x 13 0 + 1 ∧ x 13 0 + 1 - z < k_) → (okC c (x 1)) → ((t = 1 ∧ spZ (x 13 0) j.toNat (zmN (x 0) (x 12 0) (x 13 0) (j - 1).toNat) = spZ (x 13 0) (x 13 0 - z + 1).toNat c) ∨ (t = 0 ∧ spZ (x 13 0) j.toNat (zmN (x 0) (x 12 0) (x 13 0) (j - 1).toNat) = c)) → va_P D vwCl (moW T q n c (x 1) (mkF (x 2) (x 18 0)) (cdF (x 2) (x 18 0)) (x 3) (x 4) (x 11 0) (x 12 0) (x 13 0) (x 14 0) (x 15 0) (x 16 0) (x 17 0) (x 18 0) (x 19 0) (x 20 0) (x 21 0) (x 22 0) (y 31 0) (y 32 0) (y 33 0) (y 34 0) (y 35 0) (y 36 0) (y 37) (y 38) (y 39)) H → va_D A (moW T q n c (x 1) (mkF (x 2) (x 18 0)) (cdF (x 2) (x 18 0)) (x 3) (x 4) (x 11 0) (x 12 0) (x 13 0) (x 14 0) (x 15 0) (x 16 0) (x 17 0) (x 18 0) (x 19 0) (x 20 0) (x 21 0) (x 22 0) (y 31 0) (y 32 0) (y 33 0) (y 34 0) (y 35 0) (y 36 0) (y 37) (y 38) (y 39)) → va_S A s.heap H locs → lv_has ls 4 [(3, .int (iI (z))), (2, .int (iI (t))), (1, .int (iI (j))), (0, .ref (q 20))] → W p l e (rmK 2) s m ([.ref (q 20)] : List Value).toArray below meth cd H locs 0 0 Q (F0 m 110 ls []) := by
                intro k_
                induction k_ with
                | zero => intro z t c H locs ls hj2 hC hs _ _ _ _; exact absurd hj2 (by omega)
                | succ k_ ih2 =>
                  intro z t c H locs ls hj2 hC hs hP hD hS hl
                  refine lv_iload_n hx hb d_MO_edit_110 rfl (lv_at hl 0 rfl) ?_
                  refine lv_aload_n hx hb d_MO_edit_111 rfl (lv_at hl 3 rfl) ?_
                  refine va_get (D := D) (ci := 5) (v := .int (iI (x 13 0))) (C := R_MO) (T := T_MO) (N := 28) hx hb hT lays_MO hown hK hP 0 rfl rfl 6 (by decide) (hT _ tw_642) (fun _ h9 => h9) rfl d_MO_edit_112 ?_
                  refine cx_icmp_gt (tgt := 185) hx hb d_MO_edit_115 rfl (by omega) (by omega) (fun h115 => ?_) (fun h115 => ?_)
                  · refine lv_aload_n hx hb d_MO_edit_185 rfl (lv_at hl 3 rfl) ?_
                    refine lv_dup hx hb d_MO_edit_186 rfl ?_
                    refine va_get (D := D) (ci := 5) (v := .int (iI (x 12 0))) (C := R_MO) (T := T_MO) (N := 28) hx hb hT lays_MO hown hK hP 0 rfl rfl 5 (by decide) (hT _ tw_641) (fun _ h9 => h9) rfl d_MO_edit_187 ?_
                    refine lv_iload_n hx hb d_MO_edit_190 rfl (lv_at hl 2 rfl) ?_
                    refine cx_isub hx hb d_MO_edit_191 ?_
                    refine va_put (D := D) (ci := 5) (v := .int (iI ((x 12 0) - j))) (ty := .int) (C := R_MO) (T := T_MO) (N := 28) hx hb hT lays_MO t_MO t_MO_ok n_MO hown hK hP hD hS 0 rfl rfl 5 (by decide) (hT _ tw_641) (fun _ h9 => h9) rfl (by decide +kernel) rfl rfl (Nat.le_of_ble_eq_true rfl) d_MO_edit_192 (fun H locs hP hD hS => ?_)
                    have hP : va_P D vwCl (moW T q n c (x 1) (mkF (x 2) (x 18 0)) (cdF (x 2) (x 18 0)) (x 3) (x 4) (x 11 0) ((x 12 0) - j) (x 13 0) (x 14 0) (x 15 0) (x 16 0) (x 17 0) (x 18 0) (x 19 0) (x 20 0) (x 21 0) (x 22 0) (y 31 0) (y 32 0) (y 33 0) (y 34 0) (y 35 0) (y 36 0) (y 37) (y 38) (y 39)) H := hP
                    have hD : va_D A (moW T q n c (x 1) (mkF (x 2) (x 18 0)) (cdF (x 2) (x 18 0)) (x 3) (x 4) (x 11 0) ((x 12 0) - j) (x 13 0) (x 14 0) (x 15 0) (x 16 0) (x 17 0) (x 18 0) (x 19 0) (x 20 0) (x 21 0) (x 22 0) (y 31 0) (y 32 0) (y 33 0) (y 34 0) (y 35 0) (y 36 0) (y 37) (y 38) (y 39)) := hD
                    refine lv_aload_n hx hb d_MO_edit_195 rfl (lv_at hl 3 rfl) ?_
                    refine lv_dup hx hb d_MO_edit_196 rfl ?_
                    refine va_get (D := D) (ci := 5) (v := .int (iI (x 13 0))) (C := R_MO) (T := T_MO) (N := 28) hx hb hT lays_MO hown hK hP 0 rfl rfl 6 (by decide) (hT _ tw_642) (fun _ h9 => h9) rfl d_MO_edit_197 ?_
                    refine cx_iconst hx hb d_MO_edit_200 ?_
                    refine cx_iadd hx hb d_MO_edit_201 ?_
                    refine va_put (D := D) (ci := 5) (v := .int (iI ((x 13 0) + 1))) (ty := .int) (C := R_MO) (T := T_MO) (N := 28) hx hb hT lays_MO t_MO t_MO_ok n_MO hown hK hP hD hS 0 rfl rfl 6 (by decide) (hT _ tw_642) (fun _ h9 => h9) rfl (by decide +kernel) rfl rfl (Nat.le_of_ble_eq_true rfl) d_MO_edit_202 (fun H locs hP hD hS => ?_)
                    have hP : va_P D vwCl (moW T q n c (x 1) (mkF (x 2) (x 18 0)) (cdF (x 2) (x 18 0)) (x 3) (x 4) (x 11 0) ((x 12 0) - j) ((x 13 0) + 1) (x 14 0) (x 15 0) (x 16 0) (x 17 0) (x 18 0) (x 19 0) (x 20 0) (x 21 0) (x 22 0) (y 31 0) (y 32 0) (y 33 0) (y 34 0) (y 35 0) (y 36 0) (y 37) (y 38) (y 39)) H := hP
                    have hD : va_D A (moW T q n c (x 1) (mkF (x 2) (x 18 0)) (cdF (x 2) (x 18 0)) (x 3) (x 4) (x 11 0) ((x 12 0) - j) ((x 13 0) + 1) (x 14 0) (x 15 0) (x 16 0) (x 17 0) (x 18 0) (x 19 0) (x 20 0) (x 21 0) (x 22 0) (y 31 0) (y 32 0) (y 33 0) (y 34 0) (y 35 0) (y 36 0) (y 37) (y 38) (y 39)) := hD
                    refine cx_iconst hx hb d_MO_edit_205 ?_
                    exact hret ((up (up (up x 0 c) 12 (cst ((x 12 0) - j))) 13 (cst ((x 13 0) + 1)), y) : SX × SX) (⟨pst_of (by unfold supS; rw [← fld_3000 (by omega), ← hk]; unfold supK; rw [if_neg (by omega)]; rw [spZ_A hs (fun _ => spZ_e (by omega))]) (show okX (up (up (up x 0 c) 12 (cst ((x 12 0) - j))) 13 (cst ((x 13 0) + 1))) from ⟨hC, (show okR (x 11 0) ((x 12 0) - j) ((x 13 0) + 1) (x 14 0) (x 15 0) (x 16 0) (x 17 0) (x 18 0) (x 19 0) (x 20 0) by have h8 := hX.2.1; unfold okR at h8 ⊢; omega), hX.2.2⟩), ⟨rfl, rfl⟩⟩) hP hD hS d_MO_edit_206
                  · have J158 : ∀ v158 : Int, ((v158 = 1 ∧ (t = 1 ∧ (c z = 10 ∨ c z = 0 ∨ c z = 27))) ∨ (v158 = 0 ∧ ¬ (t = 1 ∧ (c z = 10 ∨ c z = 0 ∨ c z = 27)))) → W p l e (rmK 2) s m ([.ref (q 20)] : List Value).toArray below meth cd H locs 0 0 Q (F0 m 158 ls [.int (iI v158)]) := by
                      intro v158 hv158
                      refine lv_istore_n (lv' := [(2, .int (iI (v158))), (3, .int (iI (z))), (1, .int (iI (j))), (0, .ref (q 20))]) hx hb d_MO_edit_158 rfl hl (by decide) rfl (fun ls hl => ?_)
                      refine lv_aload_n hx hb d_MO_edit_159 rfl (lv_at hl 3 rfl) ?_
                      refine va_get (D := D) (ci := 5) (v := .ref (q 21)) (C := R_MO) (T := T_MO) (N := 28) hx hb hT lays_MO hown hK hP 0 rfl rfl 2 (by decide) (hT _ tw_638) (fun _ h9 => h9) rfl d_MO_edit_160 ?_
                      refine lv_iload_n hx hb d_MO_edit_163 rfl (lv_at hl 1 rfl) ?_
                      refine lv_iload_n hx hb d_MO_edit_164 rfl (lv_at hl 0 rfl) ?_
                      refine cx_if_eq (tgt := 172) hx hb d_MO_edit_165 rfl (by omega) (fun h165 => ?_) (fun h165 => ?_)
                      · refine lv_aload_n hx hb d_MO_edit_172 rfl (lv_at hl 3 rfl) ?_
                        refine va_get (D := D) (ci := 5) (v := .ref (q 21)) (C := R_MO) (T := T_MO) (N := 28) hx hb hT lays_MO hown hK hP 0 rfl rfl 2 (by decide) (hT _ tw_638) (fun _ h9 => h9) rfl d_MO_edit_173 ?_
                        refine lv_iload_n hx hb d_MO_edit_176 rfl (lv_at hl 1 rfl) ?_
                        refine cx_bald (g := iF c) hx hb hK hP 1 1 rfl rfl (by omega) (by omega) d_MO_edit_177 ?_
                        have hc177 := hC.1 (z)
                        refine cx_bast (g := iF c) (g' := iF (fu c (z) (c (z)))) hx hb hK hP hD hS 1 1 rfl rfl (by omega) (by omega) (by omega) (fun j => iF_put j) d_MO_edit_178 (fun H locs hP hD hS => ?_)
                        have hP : va_P D vwCl (moW T q n (fu c (z) (c (z))) (x 1) (mkF (x 2) (x 18 0)) (cdF (x 2) (x 18 0)) (x 3) (x 4) (x 11 0) (x 12 0) (x 13 0) (x 14 0) (x 15 0) (x 16 0) (x 17 0) (x 18 0) (x 19 0) (x 20 0) (x 21 0) (x 22 0) (y 31 0) (y 32 0) (y 33 0) (y 34 0) (y 35 0) (y 36 0) (y 37) (y 38) (y 39)) H := hP
                        have hD : va_D A (moW T q n (fu c (z) (c (z))) (x 1) (mkF (x 2) (x 18 0)) (cdF (x 2) (x 18 0)) (x 3) (x 4) (x 11 0) (x 12 0) (x 13 0) (x 14 0) (x 15 0) (x 16 0) (x 17 0) (x 18 0) (x 19 0) (x 20 0) (x 21 0) (x 22 0) (y 31 0) (y 32 0) (y 33 0) (y 34 0) (y 35 0) (y 36 0) (y 37) (y 38) (y 39)) := hD
                        have hC : okC (fu c (z) (c (z))) (x 1) := okC_fu hC (by omega)
                        refine cx_iinc (k := 1) (lv' := [(3, .int (iI (z + 1))), (2, .int (iI (v158))), (1, .int (iI (j))), (0, .ref (q 20))]) hx hb d_MO_edit_179 hl rfl (by decide) rfl (fun ls hl => ?_)
                        refine lv_goto (tgt := 110) hx hb d_MO_edit_182 rfl ?_
                        rw [fu_id] at hP hD hC
                        exact ih2 (z + 1) v158 c _ _ _ (by omega) hC (Or.inr ⟨h165, spZ_A hs (fun h8 => spZ_no (by omega) (by omega))⟩) hP hD hS (lv_sub hl [0, 1, 2, 3] rfl)
                      · refine cx_iconst hx hb d_MO_edit_168 ?_
                        refine lv_goto (tgt := 178) hx hb d_MO_edit_169 rfl ?_
                        refine cx_bast (g := iF c) (g' := iF (fu c (z) (0))) hx hb hK hP hD hS 1 1 rfl rfl (by omega) (by omega) (by omega) (fun j => iF_put j) d_MO_edit_178 (fun H locs hP hD hS => ?_)
                        have hP : va_P D vwCl (moW T q n (fu c (z) (0)) (x 1) (mkF (x 2) (x 18 0)) (cdF (x 2) (x 18 0)) (x 3) (x 4) (x 11 0) (x 12 0) (x 13 0) (x 14 0) (x 15 0) (x 16 0) (x 17 0) (x 18 0) (x 19 0) (x 20 0) (x 21 0) (x 22 0) (y 31 0) (y 32 0) (y 33 0) (y 34 0) (y 35 0) (y 36 0) (y 37) (y 38) (y 39)) H := hP
                        have hD : va_D A (moW T q n (fu c (z) (0)) (x 1) (mkF (x 2) (x 18 0)) (cdF (x 2) (x 18 0)) (x 3) (x 4) (x 11 0) (x 12 0) (x 13 0) (x 14 0) (x 15 0) (x 16 0) (x 17 0) (x 18 0) (x 19 0) (x 20 0) (x 21 0) (x 22 0) (y 31 0) (y 32 0) (y 33 0) (y 34 0) (y 35 0) (y 36 0) (y 37) (y 38) (y 39)) := hD
                        have hC : okC (fu c (z) (0)) (x 1) := okC_fu hC (by omega)
                        refine cx_iinc (k := 1) (lv' := [(3, .int (iI (z + 1))), (2, .int (iI (v158))), (1, .int (iI (j))), (0, .ref (q 20))]) hx hb d_MO_edit_179 hl rfl (by decide) rfl (fun ls hl => ?_)
                        refine lv_goto (tgt := 110) hx hb d_MO_edit_182 rfl ?_
                        have hs9 : spZ (x 13 0) j.toNat (zmN (x 0) (x 12 0) (x 13 0) (j - 1).toNat) = spZ (x 13 0) (x 13 0 - z + 1).toNat c := by rcases hs with ⟨-, h9⟩ | ⟨h8, -⟩; exact h9; omega
                        exact ih2 (z + 1) v158 (fu c (z) (0)) _ _ _ (by omega) hC (Or.inl ⟨by omega, by rw [spZ_go (by omega) (by omega)] at hs9; exact hs9⟩) hP hD hS (lv_sub hl [0, 1, 2, 3] rfl)
                    refine lv_iload_n hx hb d_MO_edit_118 rfl (lv_at hl 1 rfl) ?_
                    refine cx_if_eq (tgt := 157) hx hb d_MO_edit_119 rfl (by omega) (fun h119 => ?_) (fun h119 => ?_)
                    · refine cx_iconst hx hb d_MO_edit_157 ?_
                      exact J158 0 (by omega)
                    · refine lv_aload_n hx hb d_MO_edit_122 rfl (lv_at hl 3 rfl) ?_
                      refine va_get (D := D) (ci := 5) (v := .ref (q 21)) (C := R_MO) (T := T_MO) (N := 28) hx hb hT lays_MO hown hK hP 0 rfl rfl 2 (by decide) (hT _ tw_638) (fun _ h9 => h9) rfl d_MO_edit_123 ?_
                      refine lv_iload_n hx hb d_MO_edit_126 rfl (lv_at hl 0 rfl) ?_
                      refine cx_bald (g := iF c) hx hb hK hP 1 1 rfl rfl (by omega) (by omega) d_MO_edit_127 ?_
                      have hc127 := hC.1 (z)
                      refine cx_bipush hx hb d_MO_edit_128 rfl ?_
                      refine cx_icmp_eq (tgt := 153) hx hb d_MO_edit_130 rfl (by omega) (by omega) (fun h130 => ?_) (fun h130 => ?_)
                      · refine cx_iconst hx hb d_MO_edit_153 ?_
                        refine lv_goto (tgt := 158) hx hb d_MO_edit_154 rfl ?_
                        exact J158 1 (by omega)
                      · refine lv_aload_n hx hb d_MO_edit_133 rfl (lv_at hl 3 rfl) ?_
                        refine va_get (D := D) (ci := 5) (v := .ref (q 21)) (C := R_MO) (T := T_MO) (N := 28) hx hb hT lays_MO hown hK hP 0 rfl rfl 2 (by decide) (hT _ tw_638) (fun _ h9 => h9) rfl d_MO_edit_134 ?_
                        refine lv_iload_n hx hb d_MO_edit_137 rfl (lv_at hl 0 rfl) ?_
                        refine cx_bald (g := iF c) hx hb hK hP 1 1 rfl rfl (by omega) (by omega) d_MO_edit_138 ?_
                        have hc138 := hC.1 (z)
                        refine cx_if_eq (tgt := 153) hx hb d_MO_edit_139 rfl (by omega) (fun h139 => ?_) (fun h139 => ?_)
                        · refine cx_iconst hx hb d_MO_edit_153 ?_
                          refine lv_goto (tgt := 158) hx hb d_MO_edit_154 rfl ?_
                          exact J158 1 (by omega)
                        · refine lv_aload_n hx hb d_MO_edit_142 rfl (lv_at hl 3 rfl) ?_
                          refine va_get (D := D) (ci := 5) (v := .ref (q 21)) (C := R_MO) (T := T_MO) (N := 28) hx hb hT lays_MO hown hK hP 0 rfl rfl 2 (by decide) (hT _ tw_638) (fun _ h9 => h9) rfl d_MO_edit_143 ?_
                          refine lv_iload_n hx hb d_MO_edit_146 rfl (lv_at hl 0 rfl) ?_
                          refine cx_bald (g := iF c) hx hb hK hP 1 1 rfl rfl (by omega) (by omega) d_MO_edit_147 ?_
                          have hc147 := hC.1 (z)
                          refine cx_bipush hx hb d_MO_edit_148 rfl ?_
                          refine cx_icmp_ne (tgt := 157) hx hb d_MO_edit_150 rfl (by omega) (by omega) (fun h150 => ?_) (fun h150 => ?_)
                          · refine cx_iconst hx hb d_MO_edit_157 ?_
                            exact J158 0 (by omega)
                          · refine cx_iconst hx hb d_MO_edit_153 ?_
                            refine lv_goto (tgt := 158) hx hb d_MO_edit_154 rfl ?_
                            exact J158 1 (by omega)
              exact L2 2001 (x 13 0 - j + 1) 1 (zmN (x 0) (x 12 0) (x 13 0) (j - 1).toNat) _ _ _ (by omega) hC (Or.inl ⟨rfl, by rw [show x 13 0 - (x 13 0 - j + 1) + 1 = j by omega]⟩) hP hD hS (lv_sub hl [0, 1, 2, 3] rfl)
            · refine lv_aload_n hx hb d_MO_edit_51 rfl (lv_at hl 2 rfl) ?_
              refine va_get (D := D) (ci := 5) (v := .ref (q 21)) (C := R_MO) (T := T_MO) (N := 28) hx hb hT lays_MO hown hK hP 0 rfl rfl 2 (by decide) (hT _ tw_638) (fun _ h9 => h9) rfl d_MO_edit_52 ?_
              refine lv_aload_n hx hb d_MO_edit_55 rfl (lv_at hl 2 rfl) ?_
              refine va_get (D := D) (ci := 5) (v := .int (iI (x 13 0))) (C := R_MO) (T := T_MO) (N := 28) hx hb hT lays_MO hown hK hP 0 rfl rfl 6 (by decide) (hT _ tw_642) (fun _ h9 => h9) rfl d_MO_edit_56 ?_
              refine lv_iload_n hx hb d_MO_edit_59 rfl (lv_at hl 0 rfl) ?_
              refine cx_isub hx hb d_MO_edit_60 ?_
              refine lv_iload_n hx hb d_MO_edit_61 rfl (lv_at hl 0 rfl) ?_
              refine cx_if_ne (tgt := 80) hx hb d_MO_edit_62 rfl (by omega) (fun h62 => ?_) (fun h62 => ?_)
              · refine lv_aload_n hx hb d_MO_edit_80 rfl (lv_at hl 2 rfl) ?_
                refine va_get (D := D) (ci := 5) (v := .ref (q 21)) (C := R_MO) (T := T_MO) (N := 28) hx hb hT lays_MO hown hK hP 0 rfl rfl 2 (by decide) (hT _ tw_638) (fun _ h9 => h9) rfl d_MO_edit_81 ?_
                refine lv_aload_n hx hb d_MO_edit_84 rfl (lv_at hl 2 rfl) ?_
                refine va_get (D := D) (ci := 5) (v := .int (iI (x 12 0))) (C := R_MO) (T := T_MO) (N := 28) hx hb hT lays_MO hown hK hP 0 rfl rfl 5 (by decide) (hT _ tw_641) (fun _ h9 => h9) rfl d_MO_edit_85 ?_
                refine lv_iload_n hx hb d_MO_edit_88 rfl (lv_at hl 0 rfl) ?_
                refine cx_isub hx hb d_MO_edit_89 ?_
                refine cx_bald (g := iF (zmM (x 0) (x 12 0) (x 13 0) (j).toNat)) hx hb hK hP 1 1 rfl rfl (by omega) (by omega) d_MO_edit_90 ?_
                have hc90 := hC.1 ((x 12 0) - j)
                refine lv_i2b (v := iI ((zmM (x 0) (x 12 0) (x 13 0) (j).toNat) ((x 12 0) - j))) hx hb d_MO_edit_91 (i2b_ok (by omega)) ?_
                refine cx_bast (g := iF (zmM (x 0) (x 12 0) (x 13 0) (j).toNat)) (g' := iF (fu (zmM (x 0) (x 12 0) (x 13 0) (j).toNat) ((x 13 0) - j) ((zmM (x 0) (x 12 0) (x 13 0) (j).toNat) ((x 12 0) - j)))) hx hb hK hP hD hS 1 1 rfl rfl (by omega) (by omega) (by omega) (fun j => iF_put j) d_MO_edit_92 (fun H locs hP hD hS => ?_)
                have hP : va_P D vwCl (moW T q n (fu (zmM (x 0) (x 12 0) (x 13 0) (j).toNat) ((x 13 0) - j) ((zmM (x 0) (x 12 0) (x 13 0) (j).toNat) ((x 12 0) - j))) (x 1) (mkF (x 2) (x 18 0)) (cdF (x 2) (x 18 0)) (x 3) (x 4) (x 11 0) (x 12 0) (x 13 0) (x 14 0) (x 15 0) (x 16 0) (x 17 0) (x 18 0) (x 19 0) (x 20 0) (x 21 0) (x 22 0) (y 31 0) (y 32 0) (y 33 0) (y 34 0) (y 35 0) (y 36 0) (y 37) (y 38) (y 39)) H := hP
                have hD : va_D A (moW T q n (fu (zmM (x 0) (x 12 0) (x 13 0) (j).toNat) ((x 13 0) - j) ((zmM (x 0) (x 12 0) (x 13 0) (j).toNat) ((x 12 0) - j))) (x 1) (mkF (x 2) (x 18 0)) (cdF (x 2) (x 18 0)) (x 3) (x 4) (x 11 0) (x 12 0) (x 13 0) (x 14 0) (x 15 0) (x 16 0) (x 17 0) (x 18 0) (x 19 0) (x 20 0) (x 21 0) (x 22 0) (y 31 0) (y 32 0) (y 33 0) (y 34 0) (y 35 0) (y 36 0) (y 37) (y 38) (y 39)) := hD
                have hC : okC (fu (zmM (x 0) (x 12 0) (x 13 0) (j).toNat) ((x 13 0) - j) ((zmM (x 0) (x 12 0) (x 13 0) (j).toNat) ((x 12 0) - j))) (x 1) := okC_fu hC (by omega)
                refine cx_iinc (k := 0) (lv' := [(2, .int (iI (j + 1))), (1, .int (iI (k))), (0, .ref (q 20))]) hx hb d_MO_edit_93 hl rfl (by decide) rfl (fun ls hl => ?_)
                refine lv_goto (tgt := 46) hx hb d_MO_edit_96 rfl ?_
                rw [zmM_s (by omega)] at hP hD hC
                exact ih1 (j + 1) _ _ _ (by omega) hC hP hD hS (lv_sub hl [0, 1, 2] rfl)
              · subst h62
                refine lv_aload_n hx hb d_MO_edit_65 rfl (lv_at hl 2 rfl) ?_
                refine va_get (D := D) (ci := 5) (v := .ref (q 21)) (C := R_MO) (T := T_MO) (N := 28) hx hb hT lays_MO hown hK hP 0 rfl rfl 2 (by decide) (hT _ tw_638) (fun _ h9 => h9) rfl d_MO_edit_66 ?_
                refine lv_aload_n hx hb d_MO_edit_69 rfl (lv_at hl 2 rfl) ?_
                refine va_get (D := D) (ci := 5) (v := .int (iI (x 12 0))) (C := R_MO) (T := T_MO) (N := 28) hx hb hT lays_MO hown hK hP 0 rfl rfl 5 (by decide) (hT _ tw_641) (fun _ h9 => h9) rfl d_MO_edit_70 ?_
                refine cx_bald (g := iF (zmM (x 0) (x 12 0) (x 13 0) ((0 : Int)).toNat)) hx hb hK hP 1 1 rfl rfl (by omega) (by omega) d_MO_edit_73 ?_
                have hc73 := hC.1 (x 12 0)
                refine cx_bipush hx hb d_MO_edit_74 rfl ?_
                refine lv_iand hx hb d_MO_edit_76 ?_
                refine cx_eq (bt_c15 hc73) ?_
                refine lv_goto (tgt := 91) hx hb d_MO_edit_77 rfl ?_
                refine lv_i2b (v := iI ((zmM (x 0) (x 12 0) (x 13 0) ((0 : Int)).toNat) (x 12 0) % 16)) hx hb d_MO_edit_91 (i2b_ok (by omega)) ?_
                refine cx_bast (g := iF (zmM (x 0) (x 12 0) (x 13 0) ((0 : Int)).toNat)) (g' := iF (fu (zmM (x 0) (x 12 0) (x 13 0) ((0 : Int)).toNat) ((x 13 0) - 0) ((zmM (x 0) (x 12 0) (x 13 0) ((0 : Int)).toNat) (x 12 0) % 16))) hx hb hK hP hD hS 1 1 rfl rfl (by omega) (by omega) (by omega) (fun j => iF_put j) d_MO_edit_92 (fun H locs hP hD hS => ?_)
                have hP : va_P D vwCl (moW T q n (fu (zmM (x 0) (x 12 0) (x 13 0) ((0 : Int)).toNat) ((x 13 0) - 0) ((zmM (x 0) (x 12 0) (x 13 0) ((0 : Int)).toNat) (x 12 0) % 16)) (x 1) (mkF (x 2) (x 18 0)) (cdF (x 2) (x 18 0)) (x 3) (x 4) (x 11 0) (x 12 0) (x 13 0) (x 14 0) (x 15 0) (x 16 0) (x 17 0) (x 18 0) (x 19 0) (x 20 0) (x 21 0) (x 22 0) (y 31 0) (y 32 0) (y 33 0) (y 34 0) (y 35 0) (y 36 0) (y 37) (y 38) (y 39)) H := hP
                have hD : va_D A (moW T q n (fu (zmM (x 0) (x 12 0) (x 13 0) ((0 : Int)).toNat) ((x 13 0) - 0) ((zmM (x 0) (x 12 0) (x 13 0) ((0 : Int)).toNat) (x 12 0) % 16)) (x 1) (mkF (x 2) (x 18 0)) (cdF (x 2) (x 18 0)) (x 3) (x 4) (x 11 0) (x 12 0) (x 13 0) (x 14 0) (x 15 0) (x 16 0) (x 17 0) (x 18 0) (x 19 0) (x 20 0) (x 21 0) (x 22 0) (y 31 0) (y 32 0) (y 33 0) (y 34 0) (y 35 0) (y 36 0) (y 37) (y 38) (y 39)) := hD
                have hC : okC (fu (zmM (x 0) (x 12 0) (x 13 0) ((0 : Int)).toNat) ((x 13 0) - 0) ((zmM (x 0) (x 12 0) (x 13 0) ((0 : Int)).toNat) (x 12 0) % 16)) (x 1) := okC_fu hC (by omega)
                refine cx_iinc (k := 0) (lv' := [(2, .int (iI (0 + 1))), (1, .int (iI (k))), (0, .ref (q 20))]) hx hb d_MO_edit_93 hl rfl (by decide) rfl (fun ls hl => ?_)
                refine lv_goto (tgt := 46) hx hb d_MO_edit_96 rfl ?_
                rw [zmM_s0] at hP hD hC
                exact ih1 (0 + 1) _ _ _ (by omega) hC hP hD hS (lv_sub hl [0, 1, 2] rfl)
        exact L1 2001 0 _ _ _ (by omega) hC hP hD hS (lv_sub hl [0, 1, 2] rfl)
      · refine cx_if_ne (tgt := 44) hx hb d_MO_edit_39 rfl (by omega) (fun h0 => absurd h0 (by decide)) (fun _ => ?_)
        refine cx_iconst hx hb d_MO_edit_42 ?_
        exact hret ((x, y) : SX × SX) (⟨pst_of (by unfold supS; rw [← fld_3000 (by omega), ← hk]; unfold supK; rw [if_pos (by omega)]) hX, ⟨rfl, rfl⟩⟩) hP hD hS d_MO_edit_43
    · refine cx_if_eq (tgt := 42) hx hb d_MO_edit_24 rfl (by omega) (fun _ => ?_) (fun h0 => absurd h0 (by decide))
      refine cx_iconst hx hb d_MO_edit_42 ?_
      exact hret ((x, y) : SX × SX) (⟨pst_of (by unfold supS; rw [← fld_3000 (by omega), ← hk]; unfold supK; rw [if_pos (by omega)]) hX, ⟨rfl, rfl⟩⟩) hP hD hS d_MO_edit_43

set_option maxHeartbeats 4000000 in
set_option maxRecDepth 100000 in
theorem c_MO_branch (l : Launch) (D : va_G) (T : Nat → ClassId) (sz : Nat) (q : Nat → Nat) (n : Nat) (hn : 400 ≤ n ∧ n ≤ 2000) (x y : SX) (hX : okX x) (hY : (0 ≤ y 32 0 ∧ y 32 0 < 64) ∧ (1 ≤ y 33 0 ∧ y 33 0 ≤ 8)) (hI : x 11 0 = y 34 0 + y 33 0 ∧ 1 ≤ x 11 0 ∧ x 11 0 ≤ n) (hL : ¬ y 33 0 = 6 ∧ ¬ y 33 0 = 7) : MI l y_MO_branch (wY y_MO_branch b_MO_branch 3 (some .int)) (rmK 1) D vwCl (tyL T) nwL sz [.ref (q 20)] (moW T q n (x 0) (x 1) (mkF (x 2) (x 18 0)) (cdF (x 2) (x 18 0)) (x 3) (x 4) (x 11 0) (x 12 0) (x 13 0) (x 14 0) (x 15 0) (x 16 0) (x 17 0) (x 18 0) (x 19 0) (x 20 0) (x 21 0) (x 22 0) (y 31 0) (y 32 0) (y 33 0) (y 34 0) (y 35 0) (y 36 0) (y 37) (y 38) (y 39)) (fun r (u : SX × SX) => pst (brnS n (y 33 0) x) r u.1 ∧ (u.2 31 = y 31 ∧ u.2 33 = y 33)) (fun (u : SX × SX) => moX T q n u.1 u.2) := by
  refine cx_inI (by decide) rfl (Nat.le_of_ble_eq_true rfl) ?_
  intro p e s m below meth cd ls A Q hx hb hml hT hown hret hP hK hD hN hS hA hl
  have hown : s.vm.findClass R_MO = some m.cls := hown
  have hl : lv_has ls 3 [(0, .ref (q 20))] := hl
  have hC := hX.1
  have hR0 := hX.2.1
  have hF := hX.2.2
  unfold okR at hR0
  have hcM := hC.1 (x 11 0 - 1)
  have hcB := hC.1 (x 13 0)
  have J13 : ∀ v13 : Int, ((v13 = 1 ∧ y 33 0 < 5) ∨ (v13 = 0 ∧ ¬ y 33 0 < 5)) → W p l e (rmK 1) s m ([.ref (q 20)] : List Value).toArray below meth cd s.heap [] 0 0 Q (F0 m 13 ls [.int (iI v13)]) := by
    intro v13 hv13
    refine lv_istore_n (lv' := [(1, .int (iI (v13))), (0, .ref (q 20))]) hx hb d_MO_branch_13 rfl hl (by decide) rfl (fun ls hl => ?_)
    have J39 : ∀ (v39 : Int) (H : Heap) (locs : List Loc), (((y 33 0 = 5 ∨ y 33 0 = 8) ∧ v39 = x 0 (x 11 0 - 1)) ∨ (¬ (y 33 0 = 5 ∨ y 33 0 = 8) ∧ v39 = -1)) → va_P D vwCl (moW T q n (x 0) (x 1) (mkF (x 2) (x 18 0)) (cdF (x 2) (x 18 0)) (x 3) (x 4) (x 11 0) (x 12 0) (x 13 0) (x 14 0) (x 15 0) (x 16 0) (x 17 0) (x 18 0) (x 19 0) (x 20 0) (x 21 0) (x 22 0) (y 31 0) (y 32 0) (y 33 0) (y 34 0) (y 35 0) (y 36 0) (y 37) (y 38) (y 39)) H → va_D A (moW T q n (x 0) (x 1) (mkF (x 2) (x 18 0)) (cdF (x 2) (x 18 0)) (x 3) (x 4) (x 11 0) (x 12 0) (x 13 0) (x 14 0) (x 15 0) (x 16 0) (x 17 0) (x 18 0) (x 19 0) (x 20 0) (x 21 0) (x 22 0) (y 31 0) (y 32 0) (y 33 0) (y 34 0) (y 35 0) (y 36 0) (y 37) (y 38) (y 39)) → va_S A s.heap H locs → W p l e (rmK 1) s m ([.ref (q 20)] : List Value).toArray below meth cd H locs 0 0 Q (F0 m 39 ls [.int (iI v39)]) := by
      intro v39 H locs hv39 hP hD hS
      refine lv_istore_n (lv' := [(2, .int (iI (v39))), (1, .int (iI (v13))), (0, .ref (q 20))]) hx hb d_MO_branch_39 rfl hl (by decide) rfl (fun ls hl => ?_)
      refine lv_aload_n hx hb d_MO_branch_40 rfl (lv_at hl 2 rfl) ?_
      refine va_get (D := D) (ci := 5) (v := .int (iI (y 33 0))) (C := R_MO) (T := T_MO) (N := 28) hx hb hT lays_MO hown hK hP 0 rfl rfl 13 (by decide) (hT _ tw_649) (fun _ h9 => h9) rfl d_MO_branch_41 ?_
      refine cx_iconst hx hb d_MO_branch_44 ?_
      refine cx_icmp_ne (tgt := 158) hx hb d_MO_branch_45 rfl (by omega) (by omega) (fun h45 => ?_) (fun h45 => ?_)
      · refine lv_aload_n hx hb d_MO_branch_158 rfl (lv_at hl 2 rfl) ?_
        refine va_get (D := D) (ci := 5) (v := .int (iI (y 33 0))) (C := R_MO) (T := T_MO) (N := 28) hx hb hT lays_MO hown hK hP 0 rfl rfl 13 (by decide) (hT _ tw_649) (fun _ h9 => h9) rfl d_MO_branch_159 ?_
        refine cx_bipush hx hb d_MO_branch_162 rfl ?_
        refine cx_icmp_ne (tgt := 209) hx hb d_MO_branch_164 rfl (by omega) (by omega) (fun h164 => ?_) (fun h164 => ?_)
        · refine lv_iload_n hx hb d_MO_branch_209 rfl (lv_at hl 1 rfl) ?_
          refine cx_if_eq (tgt := 217) hx hb d_MO_branch_210 rfl (by omega) (fun h210 => ?_) (fun h210 => ?_)
          · refine cx_iconst hx hb d_MO_branch_217 ?_
            exact hret ((x, y) : SX × SX) (⟨pst_of (by first | (exfalso; omega) | (unfold brnS; rw [if_neg (show ¬ y 33 0 = 8 by omega), if_neg (show ¬ y 33 0 = 5 by omega)])) hX, ⟨rfl, rfl⟩⟩) hP hD hS d_MO_branch_218
          · refine lv_aload_n hx hb d_MO_branch_213 rfl (lv_at hl 2 rfl) ?_
            refine cx_cV (ws2 := fun _ => moW T q n ((goS x) 0) ((goS x) 1) (mkF ((goS x) 2) ((goS x) 18 0)) (cdF ((goS x) 2) ((goS x) 18 0)) ((goS x) 3) ((goS x) 4) ((goS x) 11 0) ((goS x) 12 0) ((goS x) 13 0) ((goS x) 14 0) ((goS x) 15 0) ((goS x) 16 0) ((goS x) 17 0) ((goS x) 18 0) ((goS x) 19 0) ((goS x) 20 0) ((goS x) 21 0) ((goS x) 22 0) (y 31 0) (y 32 0) (y 33 0) (y 34 0) (y 35 0) (y 36 0) (y 37) (y 38) (y 39)) (cx_rV (q0 := 0) (ci := 5) (rest := []) (As := []) hx hb hml hown hT hK hN hP hD hl.1 tw_846 k_MO_go (c_MO_go l D T H.size q n hn x y hX) ⟨by decide, by decide⟩ ⟨rfl, rfl⟩ [0, 1, 2, 3, 4, 5, 6, 7, 8, 9] (by decide) rfl rfl rfl rfl rfl (Nat.le_of_ble_eq_true rfl) ⟨Nat.zero_le _, Nat.zero_le _⟩ d_MO_branch_214) hP hD hS hA [0, 1, 2, 3, 4, 5, 6, 7, 8, 9] [] [0, 1, 2, 3, 4, 5, 6, 7, 8, 9] rfl (wr := []) rfl (by decide) (by decide) (fun _ => rfl) (by decide) (fun u_ H locs hq214 hP hD hS => ?_)
            refine cx_iconst hx hb d_MO_branch_217 ?_
            exact hret (((goS x), y) : SX × SX) (⟨pst_of (by first | (exfalso; omega) | (unfold brnS; rw [if_neg (show ¬ y 33 0 = 8 by omega), if_neg (show ¬ y 33 0 = 5 by omega)])) (goS_ok hX), ⟨rfl, rfl⟩⟩) hP hD hS d_MO_branch_218
        · refine lv_aload_n hx hb d_MO_branch_167 rfl (lv_at hl 2 rfl) ?_
          refine lv_aload_n hx hb d_MO_branch_168 rfl (lv_at hl 2 rfl) ?_
          refine va_get (D := D) (ci := 5) (v := .int (iI (x 13 0))) (C := R_MO) (T := T_MO) (N := 28) hx hb hT lays_MO hown hK hP 0 rfl rfl 6 (by decide) (hT _ tw_642) (fun _ h9 => h9) rfl d_MO_branch_169 ?_
          refine cx_cI (ws2 := fun _ => moW T q n (x 0) (x 1) (mkF (x 2) (x 18 0)) (cdF (x 2) (x 18 0)) (x 3) (x 4) (x 11 0) (x 12 0) (x 13 0) (x 14 0) (x 15 0) (x 16 0) (x 17 0) (x 18 0) (x 19 0) (x 20 0) (x 21 0) (x 22 0) (y 31 0) (y 32 0) (y 33 0) (y 34 0) (y 35 0) (y 36 0) (y 37) (y 38) (y 39)) (cx_rV (q0 := 0) (ci := 5) (rest := []) (As := [.int (iI (x 13 0))]) hx hb hml hown hT hK hN hP hD hl.1 tw_731 k_MO_is (c_MO_is l D T H.size q n hn x y hX (x 13 0) (by omega)) ⟨by decide, by decide⟩ ⟨rfl, rfl⟩ [0, 1, 2, 3, 4, 5, 6, 7, 8, 9] (by decide) rfl rfl rfl rfl rfl (Nat.le_of_ble_eq_true rfl) ⟨Nat.zero_le _, Nat.zero_le _⟩ d_MO_branch_172) hP hD hS hA [0, 1, 2, 3, 4, 5, 6, 7, 8, 9] [] [0, 1, 2, 3, 4, 5, 6, 7, 8, 9] rfl (wr := []) rfl (by decide) (by decide) (fun _ => rfl) (by decide) (fun r u_ H locs hq172 hP hD hS => ?_)
          rcases hq172 with ⟨rfl, h172⟩ | ⟨rfl, h172⟩
          · refine cx_if_ne (tgt := 180) hx hb d_MO_branch_175 rfl (by omega) (fun _ => ?_) (fun h0 => absurd h0 (by decide))
            refine lv_aload_n hx hb d_MO_branch_180 rfl (lv_at hl 2 rfl) ?_
            refine va_get (D := D) (ci := 5) (v := .ref (q 21)) (C := R_MO) (T := T_MO) (N := 28) hx hb hT lays_MO hown hK hP 0 rfl rfl 2 (by decide) (hT _ tw_638) (fun _ h9 => h9) rfl d_MO_branch_181 ?_
            refine lv_aload_n hx hb d_MO_branch_184 rfl (lv_at hl 2 rfl) ?_
            refine va_get (D := D) (ci := 5) (v := .int (iI (x 13 0))) (C := R_MO) (T := T_MO) (N := 28) hx hb hT lays_MO hown hK hP 0 rfl rfl 6 (by decide) (hT _ tw_642) (fun _ h9 => h9) rfl d_MO_branch_185 ?_
            refine cx_bald (g := iF (x 0)) hx hb hK hP 1 1 rfl rfl (by omega) (by omega) d_MO_branch_188 ?_
            have hc188 := hC.1 (x 13 0)
            refine lv_iload_n hx hb d_MO_branch_189 rfl (lv_at hl 0 rfl) ?_
            refine cx_icmp_ne (tgt := 197) hx hb d_MO_branch_190 rfl (by omega) (by omega) (fun h190 => ?_) (fun h190 => ?_)
            · refine cx_iconst hx hb d_MO_branch_197 ?_
              refine lv_istore_n (lv' := [(1, .int (iI (0))), (2, .int (iI (v39))), (0, .ref (q 20))]) hx hb d_MO_branch_198 rfl hl (by decide) rfl (fun ls hl => ?_)
              refine lv_aload_n hx hb d_MO_branch_199 rfl (lv_at hl 2 rfl) ?_
              refine lv_dup hx hb d_MO_branch_200 rfl ?_
              refine va_get (D := D) (ci := 5) (v := .int (iI (x 13 0))) (C := R_MO) (T := T_MO) (N := 28) hx hb hT lays_MO hown hK hP 0 rfl rfl 6 (by decide) (hT _ tw_642) (fun _ h9 => h9) rfl d_MO_branch_201 ?_
              refine cx_iconst hx hb d_MO_branch_204 ?_
              refine cx_isub hx hb d_MO_branch_205 ?_
              refine va_put (D := D) (ci := 5) (v := .int (iI ((x 13 0) - 1))) (ty := .int) (C := R_MO) (T := T_MO) (N := 28) hx hb hT lays_MO t_MO t_MO_ok n_MO hown hK hP hD hS 0 rfl rfl 6 (by decide) (hT _ tw_642) (fun _ h9 => h9) rfl (by decide +kernel) rfl rfl (Nat.le_of_ble_eq_true rfl) d_MO_branch_206 (fun H locs hP hD hS => ?_)
              have hP : va_P D vwCl (moW T q n (x 0) (x 1) (mkF (x 2) (x 18 0)) (cdF (x 2) (x 18 0)) (x 3) (x 4) (x 11 0) (x 12 0) ((x 13 0) - 1) (x 14 0) (x 15 0) (x 16 0) (x 17 0) (x 18 0) (x 19 0) (x 20 0) (x 21 0) (x 22 0) (y 31 0) (y 32 0) (y 33 0) (y 34 0) (y 35 0) (y 36 0) (y 37) (y 38) (y 39)) H := hP
              have hD : va_D A (moW T q n (x 0) (x 1) (mkF (x 2) (x 18 0)) (cdF (x 2) (x 18 0)) (x 3) (x 4) (x 11 0) (x 12 0) ((x 13 0) - 1) (x 14 0) (x 15 0) (x 16 0) (x 17 0) (x 18 0) (x 19 0) (x 20 0) (x 21 0) (x 22 0) (y 31 0) (y 32 0) (y 33 0) (y 34 0) (y 35 0) (y 36 0) (y 37) (y 38) (y 39)) := hD
              refine lv_iload_n hx hb d_MO_branch_209 rfl (lv_at hl 0 rfl) ?_
              refine cx_if_eq (tgt := 217) hx hb d_MO_branch_210 rfl (by omega) (fun _ => ?_) (fun h0 => absurd h0 (by decide))
              refine cx_iconst hx hb d_MO_branch_217 ?_
              exact hret ((up x 13 (cst ((x 13 0) - 1)), y) : SX × SX) (⟨pst_of (by unfold brnS gof; rw [if_pos (show y 33 0 = 8 by omega), if_pos (by omega), if_neg (show ¬ x 0 (x 13 0) = x 0 (x 11 0 - 1) by omega), if_pos rfl]) (show okX (up x 13 (cst ((x 13 0) - 1))) from ⟨hX.1, (show okR (x 11 0) (x 12 0) ((x 13 0) - 1) (x 14 0) (x 15 0) (x 16 0) (x 17 0) (x 18 0) (x 19 0) (x 20 0) by have h8 := hX.2.1; unfold okR at h8 ⊢; omega), hX.2.2⟩), ⟨rfl, rfl⟩⟩) hP hD hS d_MO_branch_218
            · refine cx_iconst hx hb d_MO_branch_193 ?_
              refine lv_goto (tgt := 198) hx hb d_MO_branch_194 rfl ?_
              refine lv_istore_n (lv' := [(1, .int (iI (1))), (2, .int (iI (v39))), (0, .ref (q 20))]) hx hb d_MO_branch_198 rfl hl (by decide) rfl (fun ls hl => ?_)
              refine lv_aload_n hx hb d_MO_branch_199 rfl (lv_at hl 2 rfl) ?_
              refine lv_dup hx hb d_MO_branch_200 rfl ?_
              refine va_get (D := D) (ci := 5) (v := .int (iI (x 13 0))) (C := R_MO) (T := T_MO) (N := 28) hx hb hT lays_MO hown hK hP 0 rfl rfl 6 (by decide) (hT _ tw_642) (fun _ h9 => h9) rfl d_MO_branch_201 ?_
              refine cx_iconst hx hb d_MO_branch_204 ?_
              refine cx_isub hx hb d_MO_branch_205 ?_
              refine va_put (D := D) (ci := 5) (v := .int (iI ((x 13 0) - 1))) (ty := .int) (C := R_MO) (T := T_MO) (N := 28) hx hb hT lays_MO t_MO t_MO_ok n_MO hown hK hP hD hS 0 rfl rfl 6 (by decide) (hT _ tw_642) (fun _ h9 => h9) rfl (by decide +kernel) rfl rfl (Nat.le_of_ble_eq_true rfl) d_MO_branch_206 (fun H locs hP hD hS => ?_)
              have hP : va_P D vwCl (moW T q n (x 0) (x 1) (mkF (x 2) (x 18 0)) (cdF (x 2) (x 18 0)) (x 3) (x 4) (x 11 0) (x 12 0) ((x 13 0) - 1) (x 14 0) (x 15 0) (x 16 0) (x 17 0) (x 18 0) (x 19 0) (x 20 0) (x 21 0) (x 22 0) (y 31 0) (y 32 0) (y 33 0) (y 34 0) (y 35 0) (y 36 0) (y 37) (y 38) (y 39)) H := hP
              have hD : va_D A (moW T q n (x 0) (x 1) (mkF (x 2) (x 18 0)) (cdF (x 2) (x 18 0)) (x 3) (x 4) (x 11 0) (x 12 0) ((x 13 0) - 1) (x 14 0) (x 15 0) (x 16 0) (x 17 0) (x 18 0) (x 19 0) (x 20 0) (x 21 0) (x 22 0) (y 31 0) (y 32 0) (y 33 0) (y 34 0) (y 35 0) (y 36 0) (y 37) (y 38) (y 39)) := hD
              refine lv_iload_n hx hb d_MO_branch_209 rfl (lv_at hl 0 rfl) ?_
              refine cx_if_eq (tgt := 217) hx hb d_MO_branch_210 rfl (by omega) (fun h0 => absurd h0 (by decide)) (fun _ => ?_)
              refine lv_aload_n hx hb d_MO_branch_213 rfl (lv_at hl 2 rfl) ?_
              refine cx_cV (ws2 := fun _ => moW T q n ((goS (up x 13 (cst ((x 13 0) - 1)))) 0) ((goS (up x 13 (cst ((x 13 0) - 1)))) 1) (mkF ((goS (up x 13 (cst ((x 13 0) - 1)))) 2) ((goS (up x 13 (cst ((x 13 0) - 1)))) 18 0)) (cdF ((goS (up x 13 (cst ((x 13 0) - 1)))) 2) ((goS (up x 13 (cst ((x 13 0) - 1)))) 18 0)) ((goS (up x 13 (cst ((x 13 0) - 1)))) 3) ((goS (up x 13 (cst ((x 13 0) - 1)))) 4) ((goS (up x 13 (cst ((x 13 0) - 1)))) 11 0) ((goS (up x 13 (cst ((x 13 0) - 1)))) 12 0) ((goS (up x 13 (cst ((x 13 0) - 1)))) 13 0) ((goS (up x 13 (cst ((x 13 0) - 1)))) 14 0) ((goS (up x 13 (cst ((x 13 0) - 1)))) 15 0) ((goS (up x 13 (cst ((x 13 0) - 1)))) 16 0) ((goS (up x 13 (cst ((x 13 0) - 1)))) 17 0) ((goS (up x 13 (cst ((x 13 0) - 1)))) 18 0) ((goS (up x 13 (cst ((x 13 0) - 1)))) 19 0) ((goS (up x 13 (cst ((x 13 0) - 1)))) 20 0) ((goS (up x 13 (cst ((x 13 0) - 1)))) 21 0) ((goS (up x 13 (cst ((x 13 0) - 1)))) 22 0) (y 31 0) (y 32 0) (y 33 0) (y 34 0) (y 35 0) (y 36 0) (y 37) (y 38) (y 39)) (cx_rV (q0 := 0) (ci := 5) (rest := []) (As := []) hx hb hml hown hT hK hN hP hD hl.1 tw_846 k_MO_go (c_MO_go l D T H.size q n hn (up x 13 (cst ((x 13 0) - 1))) y (show okX (up x 13 (cst ((x 13 0) - 1))) from ⟨hX.1, (show okR (x 11 0) (x 12 0) ((x 13 0) - 1) (x 14 0) (x 15 0) (x 16 0) (x 17 0) (x 18 0) (x 19 0) (x 20 0) by have h8 := hX.2.1; unfold okR at h8 ⊢; omega), hX.2.2⟩)) ⟨by decide, by decide⟩ ⟨rfl, rfl⟩ [0, 1, 2, 3, 4, 5, 6, 7, 8, 9] (by decide) rfl rfl rfl rfl rfl (Nat.le_of_ble_eq_true rfl) ⟨Nat.zero_le _, Nat.zero_le _⟩ d_MO_branch_214) hP hD hS hA [0, 1, 2, 3, 4, 5, 6, 7, 8, 9] [] [0, 1, 2, 3, 4, 5, 6, 7, 8, 9] rfl (wr := []) rfl (by decide) (by decide) (fun _ => rfl) (by decide) (fun u_ H locs hq214 hP hD hS => ?_)
              refine cx_iconst hx hb d_MO_branch_217 ?_
              exact hret (((goS (up x 13 (cst ((x 13 0) - 1)))), y) : SX × SX) (⟨pst_of (by unfold brnS gof; rw [if_pos (show y 33 0 = 8 by omega), if_pos (by omega), if_pos (show x 0 (x 13 0) = x 0 (x 11 0 - 1) by omega), if_neg (by decide)]) (goS_ok (show okX (up x 13 (cst ((x 13 0) - 1))) from ⟨hX.1, (show okR (x 11 0) (x 12 0) ((x 13 0) - 1) (x 14 0) (x 15 0) (x 16 0) (x 17 0) (x 18 0) (x 19 0) (x 20 0) by have h8 := hX.2.1; unfold okR at h8 ⊢; omega), hX.2.2⟩)), ⟨rfl, rfl⟩⟩) hP hD hS d_MO_branch_218
          · refine cx_if_ne (tgt := 180) hx hb d_MO_branch_175 rfl (by omega) (fun h0 => absurd h0 (by decide)) (fun _ => ?_)
            refine cx_iconst hx hb d_MO_branch_178 ?_
            exact hret ((x, y) : SX × SX) (⟨pst_of (by unfold brnS; rw [if_pos (show y 33 0 = 8 by omega), if_neg (by omega)]) hX, ⟨rfl, rfl⟩⟩) hP hD hS d_MO_branch_179
      · have J135 : ∀ v135 : Int, ((v135 = 1 ∧ (v39 = 0 ∨ (v39 = 17 ∧ ¬ x 14 0 = 0) ∨ (v39 = 18 ∧ x 14 0 = 0) ∨ (v39 = 19 ∧ x 14 0 < 0) ∨ (v39 = 20 ∧ 0 < x 14 0) ∨ (v39 = 25 ∧ ¬ x 15 0 = 0) ∨ (v39 = 49 ∧ ¬ x 16 0 = 0))) ∨ (v135 = 0 ∧ ¬ (v39 = 0 ∨ (v39 = 17 ∧ ¬ x 14 0 = 0) ∨ (v39 = 18 ∧ x 14 0 = 0) ∨ (v39 = 19 ∧ x 14 0 < 0) ∨ (v39 = 20 ∧ 0 < x 14 0) ∨ (v39 = 25 ∧ ¬ x 15 0 = 0) ∨ (v39 = 49 ∧ ¬ x 16 0 = 0)))) → W p l e (rmK 1) s m ([.ref (q 20)] : List Value).toArray below meth cd H locs 0 0 Q (F0 m 135 ls [.int (iI v135)]) := by
          intro v135 hv135
          refine lv_istore_n (lv' := [(1, .int (iI (v135))), (2, .int (iI (v39))), (0, .ref (q 20))]) hx hb d_MO_branch_135 rfl hl (by decide) rfl (fun ls hl => ?_)
          refine lv_aload_n hx hb d_MO_branch_136 rfl (lv_at hl 2 rfl) ?_
          refine lv_aload_n hx hb d_MO_branch_137 rfl (lv_at hl 2 rfl) ?_
          refine va_get (D := D) (ci := 5) (v := .int (iI (x 15 0))) (C := R_MO) (T := T_MO) (N := 28) hx hb hT lays_MO hown hK hP 0 rfl rfl 8 (by decide) (hT _ tw_644) (fun _ h9 => h9) rfl d_MO_branch_138 ?_
          refine cx_if_eq (tgt := 154) hx hb d_MO_branch_141 rfl (by omega) (fun h141 => ?_) (fun h141 => ?_)
          · refine cx_iconst hx hb d_MO_branch_154 ?_
            refine va_put (D := D) (ci := 5) (v := .int (iI (0))) (ty := .boolean) (C := R_MO) (T := T_MO) (N := 28) hx hb hT lays_MO t_MO t_MO_ok n_MO hown hK hP hD hS 0 rfl rfl 8 (by decide) (hT _ tw_644) (fun _ h9 => h9) rfl (by decide +kernel) rfl rfl (Nat.le_of_ble_eq_true rfl) d_MO_branch_155 (fun H locs hP hD hS => ?_)
            have hP : va_P D vwCl (moW T q n (x 0) (x 1) (mkF (x 2) (x 18 0)) (cdF (x 2) (x 18 0)) (x 3) (x 4) (x 11 0) (x 12 0) (x 13 0) (x 14 0) 0 (x 16 0) (x 17 0) (x 18 0) (x 19 0) (x 20 0) (x 21 0) (x 22 0) (y 31 0) (y 32 0) (y 33 0) (y 34 0) (y 35 0) (y 36 0) (y 37) (y 38) (y 39)) H := hP
            have hD : va_D A (moW T q n (x 0) (x 1) (mkF (x 2) (x 18 0)) (cdF (x 2) (x 18 0)) (x 3) (x 4) (x 11 0) (x 12 0) (x 13 0) (x 14 0) 0 (x 16 0) (x 17 0) (x 18 0) (x 19 0) (x 20 0) (x 21 0) (x 22 0) (y 31 0) (y 32 0) (y 33 0) (y 34 0) (y 35 0) (y 36 0) (y 37) (y 38) (y 39)) := hD
            by_cases h25 : v39 = 25
            · skip
              refine lv_aload_n hx hb d_MO_branch_158 rfl (lv_at hl 2 rfl) ?_
              refine va_get (D := D) (ci := 5) (v := .int (iI (y 33 0))) (C := R_MO) (T := T_MO) (N := 28) hx hb hT lays_MO hown hK hP 0 rfl rfl 13 (by decide) (hT _ tw_649) (fun _ h9 => h9) rfl d_MO_branch_159 ?_
              refine cx_bipush hx hb d_MO_branch_162 rfl ?_
              refine cx_icmp_ne (tgt := 209) hx hb d_MO_branch_164 rfl (by omega) (by omega) (fun h164 => ?_) (fun h164 => absurd h164 (by omega))
              refine lv_iload_n hx hb d_MO_branch_209 rfl (lv_at hl 0 rfl) ?_
              refine cx_if_eq (tgt := 217) hx hb d_MO_branch_210 rfl (by omega) (fun h210 => ?_) (fun h210 => ?_)
              · refine cx_iconst hx hb d_MO_branch_217 ?_
                exact hret ((up x 15 (cst 0), y) : SX × SX) (⟨pst_of (by unfold brnS; rw [if_neg (show ¬ y 33 0 = 8 by omega), if_pos (show y 33 0 = 5 by omega), show x 0 (x 11 0 - 1) = v39 by omega, ind_G (by omega) (by omega)]; unfold gof ovo; rw [if_pos (show v39 = 25 by omega), if_neg (show ¬ (v39 = 0 ∨ (v39 = 17 ∧ ¬ x 14 0 = 0) ∨ (v39 = 18 ∧ x 14 0 = 0) ∨ (v39 = 19 ∧ x 14 0 < 0) ∨ (v39 = 20 ∧ 0 < x 14 0) ∨ (v39 = 25 ∧ ¬ x 15 0 = 0) ∨ (v39 = 49 ∧ ¬ x 16 0 = 0)) by omega), if_pos rfl]) (show okX (up x 15 (cst 0)) from ⟨hX.1, (show okR (x 11 0) (x 12 0) (x 13 0) (x 14 0) 0 (x 16 0) (x 17 0) (x 18 0) (x 19 0) (x 20 0) by have h8 := hX.2.1; unfold okR at h8 ⊢; omega), hX.2.2⟩), ⟨rfl, rfl⟩⟩) hP hD hS d_MO_branch_218
              · refine lv_aload_n hx hb d_MO_branch_213 rfl (lv_at hl 2 rfl) ?_
                refine cx_cV (ws2 := fun _ => moW T q n ((goS (up x 15 (cst 0))) 0) ((goS (up x 15 (cst 0))) 1) (mkF ((goS (up x 15 (cst 0))) 2) ((goS (up x 15 (cst 0))) 18 0)) (cdF ((goS (up x 15 (cst 0))) 2) ((goS (up x 15 (cst 0))) 18 0)) ((goS (up x 15 (cst 0))) 3) ((goS (up x 15 (cst 0))) 4) ((goS (up x 15 (cst 0))) 11 0) ((goS (up x 15 (cst 0))) 12 0) ((goS (up x 15 (cst 0))) 13 0) ((goS (up x 15 (cst 0))) 14 0) ((goS (up x 15 (cst 0))) 15 0) ((goS (up x 15 (cst 0))) 16 0) ((goS (up x 15 (cst 0))) 17 0) ((goS (up x 15 (cst 0))) 18 0) ((goS (up x 15 (cst 0))) 19 0) ((goS (up x 15 (cst 0))) 20 0) ((goS (up x 15 (cst 0))) 21 0) ((goS (up x 15 (cst 0))) 22 0) (y 31 0) (y 32 0) (y 33 0) (y 34 0) (y 35 0) (y 36 0) (y 37) (y 38) (y 39)) (cx_rV (q0 := 0) (ci := 5) (rest := []) (As := []) hx hb hml hown hT hK hN hP hD hl.1 tw_846 k_MO_go (c_MO_go l D T H.size q n hn (up x 15 (cst 0)) y (show okX (up x 15 (cst 0)) from ⟨hX.1, (show okR (x 11 0) (x 12 0) (x 13 0) (x 14 0) 0 (x 16 0) (x 17 0) (x 18 0) (x 19 0) (x 20 0) by have h8 := hX.2.1; unfold okR at h8 ⊢; omega), hX.2.2⟩)) ⟨by decide, by decide⟩ ⟨rfl, rfl⟩ [0, 1, 2, 3, 4, 5, 6, 7, 8, 9] (by decide) rfl rfl rfl rfl rfl (Nat.le_of_ble_eq_true rfl) ⟨Nat.zero_le _, Nat.zero_le _⟩ d_MO_branch_214) hP hD hS hA [0, 1, 2, 3, 4, 5, 6, 7, 8, 9] [] [0, 1, 2, 3, 4, 5, 6, 7, 8, 9] rfl (wr := []) rfl (by decide) (by decide) (fun _ => rfl) (by decide) (fun u_ H locs hq214 hP hD hS => ?_)
                refine cx_iconst hx hb d_MO_branch_217 ?_
                exact hret (((goS (up x 15 (cst 0))), y) : SX × SX) (⟨pst_of (by unfold brnS; rw [if_neg (show ¬ y 33 0 = 8 by omega), if_pos (show y 33 0 = 5 by omega), show x 0 (x 11 0 - 1) = v39 by omega, ind_G (by omega) (by omega)]; unfold gof ovo; rw [if_pos (show v39 = 25 by omega), if_pos (show (v39 = 0 ∨ (v39 = 17 ∧ ¬ x 14 0 = 0) ∨ (v39 = 18 ∧ x 14 0 = 0) ∨ (v39 = 19 ∧ x 14 0 < 0) ∨ (v39 = 20 ∧ 0 < x 14 0) ∨ (v39 = 25 ∧ ¬ x 15 0 = 0) ∨ (v39 = 49 ∧ ¬ x 16 0 = 0)) by omega), if_neg (by decide)]) (goS_ok (show okX (up x 15 (cst 0)) from ⟨hX.1, (show okR (x 11 0) (x 12 0) (x 13 0) (x 14 0) 0 (x 16 0) (x 17 0) (x 18 0) (x 19 0) (x 20 0) by have h8 := hX.2.1; unfold okR at h8 ⊢; omega), hX.2.2⟩)), ⟨rfl, rfl⟩⟩) hP hD hS d_MO_branch_218
            · have e15 : (0 : Int) = x 15 0 := by omega
              have hP : va_P D vwCl (moW T q n (x 0) (x 1) (mkF (x 2) (x 18 0)) (cdF (x 2) (x 18 0)) (x 3) (x 4) (x 11 0) (x 12 0) (x 13 0) (x 14 0) (x 15 0) (x 16 0) (x 17 0) (x 18 0) (x 19 0) (x 20 0) (x 21 0) (x 22 0) (y 31 0) (y 32 0) (y 33 0) (y 34 0) (y 35 0) (y 36 0) (y 37) (y 38) (y 39)) H := by rw [← e15]; exact hP
              have hD : va_D A (moW T q n (x 0) (x 1) (mkF (x 2) (x 18 0)) (cdF (x 2) (x 18 0)) (x 3) (x 4) (x 11 0) (x 12 0) (x 13 0) (x 14 0) (x 15 0) (x 16 0) (x 17 0) (x 18 0) (x 19 0) (x 20 0) (x 21 0) (x 22 0) (y 31 0) (y 32 0) (y 33 0) (y 34 0) (y 35 0) (y 36 0) (y 37) (y 38) (y 39)) := by rw [← e15]; exact hD
              refine lv_aload_n hx hb d_MO_branch_158 rfl (lv_at hl 2 rfl) ?_
              refine va_get (D := D) (ci := 5) (v := .int (iI (y 33 0))) (C := R_MO) (T := T_MO) (N := 28) hx hb hT lays_MO hown hK hP 0 rfl rfl 13 (by decide) (hT _ tw_649) (fun _ h9 => h9) rfl d_MO_branch_159 ?_
              refine cx_bipush hx hb d_MO_branch_162 rfl ?_
              refine cx_icmp_ne (tgt := 209) hx hb d_MO_branch_164 rfl (by omega) (by omega) (fun h164 => ?_) (fun h164 => absurd h164 (by omega))
              refine lv_iload_n hx hb d_MO_branch_209 rfl (lv_at hl 0 rfl) ?_
              refine cx_if_eq (tgt := 217) hx hb d_MO_branch_210 rfl (by omega) (fun h210 => ?_) (fun h210 => ?_)
              · refine cx_iconst hx hb d_MO_branch_217 ?_
                exact hret ((x, y) : SX × SX) (⟨pst_of (by unfold brnS; rw [if_neg (show ¬ y 33 0 = 8 by omega), if_pos (show y 33 0 = 5 by omega), show x 0 (x 11 0 - 1) = v39 by omega, ind_G (by omega) (by omega)]; unfold gof ovo; rw [if_neg (show ¬ v39 = 25 by omega), if_neg (show ¬ (v39 = 0 ∨ (v39 = 17 ∧ ¬ x 14 0 = 0) ∨ (v39 = 18 ∧ x 14 0 = 0) ∨ (v39 = 19 ∧ x 14 0 < 0) ∨ (v39 = 20 ∧ 0 < x 14 0) ∨ (v39 = 25 ∧ ¬ x 15 0 = 0) ∨ (v39 = 49 ∧ ¬ x 16 0 = 0)) by omega), if_pos rfl]) hX, ⟨rfl, rfl⟩⟩) hP hD hS d_MO_branch_218
              · refine lv_aload_n hx hb d_MO_branch_213 rfl (lv_at hl 2 rfl) ?_
                refine cx_cV (ws2 := fun _ => moW T q n ((goS x) 0) ((goS x) 1) (mkF ((goS x) 2) ((goS x) 18 0)) (cdF ((goS x) 2) ((goS x) 18 0)) ((goS x) 3) ((goS x) 4) ((goS x) 11 0) ((goS x) 12 0) ((goS x) 13 0) ((goS x) 14 0) ((goS x) 15 0) ((goS x) 16 0) ((goS x) 17 0) ((goS x) 18 0) ((goS x) 19 0) ((goS x) 20 0) ((goS x) 21 0) ((goS x) 22 0) (y 31 0) (y 32 0) (y 33 0) (y 34 0) (y 35 0) (y 36 0) (y 37) (y 38) (y 39)) (cx_rV (q0 := 0) (ci := 5) (rest := []) (As := []) hx hb hml hown hT hK hN hP hD hl.1 tw_846 k_MO_go (c_MO_go l D T H.size q n hn x y hX) ⟨by decide, by decide⟩ ⟨rfl, rfl⟩ [0, 1, 2, 3, 4, 5, 6, 7, 8, 9] (by decide) rfl rfl rfl rfl rfl (Nat.le_of_ble_eq_true rfl) ⟨Nat.zero_le _, Nat.zero_le _⟩ d_MO_branch_214) hP hD hS hA [0, 1, 2, 3, 4, 5, 6, 7, 8, 9] [] [0, 1, 2, 3, 4, 5, 6, 7, 8, 9] rfl (wr := []) rfl (by decide) (by decide) (fun _ => rfl) (by decide) (fun u_ H locs hq214 hP hD hS => ?_)
                refine cx_iconst hx hb d_MO_branch_217 ?_
                exact hret (((goS x), y) : SX × SX) (⟨pst_of (by unfold brnS; rw [if_neg (show ¬ y 33 0 = 8 by omega), if_pos (show y 33 0 = 5 by omega), show x 0 (x 11 0 - 1) = v39 by omega, ind_G (by omega) (by omega)]; unfold gof ovo; rw [if_neg (show ¬ v39 = 25 by omega), if_pos (show (v39 = 0 ∨ (v39 = 17 ∧ ¬ x 14 0 = 0) ∨ (v39 = 18 ∧ x 14 0 = 0) ∨ (v39 = 19 ∧ x 14 0 < 0) ∨ (v39 = 20 ∧ 0 < x 14 0) ∨ (v39 = 25 ∧ ¬ x 15 0 = 0) ∨ (v39 = 49 ∧ ¬ x 16 0 = 0)) by omega), if_neg (by decide)]) (goS_ok hX), ⟨rfl, rfl⟩⟩) hP hD hS d_MO_branch_218
          · refine lv_iload_n hx hb d_MO_branch_144 rfl (lv_at hl 1 rfl) ?_
            refine cx_bipush hx hb d_MO_branch_145 rfl ?_
            refine cx_icmp_eq (tgt := 154) hx hb d_MO_branch_147 rfl (by omega) (by omega) (fun h147 => ?_) (fun h147 => ?_)
            · refine cx_iconst hx hb d_MO_branch_154 ?_
              refine va_put (D := D) (ci := 5) (v := .int (iI (0))) (ty := .boolean) (C := R_MO) (T := T_MO) (N := 28) hx hb hT lays_MO t_MO t_MO_ok n_MO hown hK hP hD hS 0 rfl rfl 8 (by decide) (hT _ tw_644) (fun _ h9 => h9) rfl (by decide +kernel) rfl rfl (Nat.le_of_ble_eq_true rfl) d_MO_branch_155 (fun H locs hP hD hS => ?_)
              have hP : va_P D vwCl (moW T q n (x 0) (x 1) (mkF (x 2) (x 18 0)) (cdF (x 2) (x 18 0)) (x 3) (x 4) (x 11 0) (x 12 0) (x 13 0) (x 14 0) 0 (x 16 0) (x 17 0) (x 18 0) (x 19 0) (x 20 0) (x 21 0) (x 22 0) (y 31 0) (y 32 0) (y 33 0) (y 34 0) (y 35 0) (y 36 0) (y 37) (y 38) (y 39)) H := hP
              have hD : va_D A (moW T q n (x 0) (x 1) (mkF (x 2) (x 18 0)) (cdF (x 2) (x 18 0)) (x 3) (x 4) (x 11 0) (x 12 0) (x 13 0) (x 14 0) 0 (x 16 0) (x 17 0) (x 18 0) (x 19 0) (x 20 0) (x 21 0) (x 22 0) (y 31 0) (y 32 0) (y 33 0) (y 34 0) (y 35 0) (y 36 0) (y 37) (y 38) (y 39)) := hD
              refine lv_aload_n hx hb d_MO_branch_158 rfl (lv_at hl 2 rfl) ?_
              refine va_get (D := D) (ci := 5) (v := .int (iI (y 33 0))) (C := R_MO) (T := T_MO) (N := 28) hx hb hT lays_MO hown hK hP 0 rfl rfl 13 (by decide) (hT _ tw_649) (fun _ h9 => h9) rfl d_MO_branch_159 ?_
              refine cx_bipush hx hb d_MO_branch_162 rfl ?_
              refine cx_icmp_ne (tgt := 209) hx hb d_MO_branch_164 rfl (by omega) (by omega) (fun h164 => ?_) (fun h164 => absurd h164 (by omega))
              refine lv_iload_n hx hb d_MO_branch_209 rfl (lv_at hl 0 rfl) ?_
              refine cx_if_eq (tgt := 217) hx hb d_MO_branch_210 rfl (by omega) (fun h210 => ?_) (fun h210 => ?_)
              · refine cx_iconst hx hb d_MO_branch_217 ?_
                exact hret ((up x 15 (cst 0), y) : SX × SX) (⟨pst_of (by unfold brnS; rw [if_neg (show ¬ y 33 0 = 8 by omega), if_pos (show y 33 0 = 5 by omega), show x 0 (x 11 0 - 1) = v39 by omega, ind_G (by omega) (by omega)]; unfold gof ovo; rw [if_pos (show v39 = 25 by omega), if_neg (show ¬ (v39 = 0 ∨ (v39 = 17 ∧ ¬ x 14 0 = 0) ∨ (v39 = 18 ∧ x 14 0 = 0) ∨ (v39 = 19 ∧ x 14 0 < 0) ∨ (v39 = 20 ∧ 0 < x 14 0) ∨ (v39 = 25 ∧ ¬ x 15 0 = 0) ∨ (v39 = 49 ∧ ¬ x 16 0 = 0)) by omega), if_pos rfl]) (show okX (up x 15 (cst 0)) from ⟨hX.1, (show okR (x 11 0) (x 12 0) (x 13 0) (x 14 0) 0 (x 16 0) (x 17 0) (x 18 0) (x 19 0) (x 20 0) by have h8 := hX.2.1; unfold okR at h8 ⊢; omega), hX.2.2⟩), ⟨rfl, rfl⟩⟩) hP hD hS d_MO_branch_218
              · refine lv_aload_n hx hb d_MO_branch_213 rfl (lv_at hl 2 rfl) ?_
                refine cx_cV (ws2 := fun _ => moW T q n ((goS (up x 15 (cst 0))) 0) ((goS (up x 15 (cst 0))) 1) (mkF ((goS (up x 15 (cst 0))) 2) ((goS (up x 15 (cst 0))) 18 0)) (cdF ((goS (up x 15 (cst 0))) 2) ((goS (up x 15 (cst 0))) 18 0)) ((goS (up x 15 (cst 0))) 3) ((goS (up x 15 (cst 0))) 4) ((goS (up x 15 (cst 0))) 11 0) ((goS (up x 15 (cst 0))) 12 0) ((goS (up x 15 (cst 0))) 13 0) ((goS (up x 15 (cst 0))) 14 0) ((goS (up x 15 (cst 0))) 15 0) ((goS (up x 15 (cst 0))) 16 0) ((goS (up x 15 (cst 0))) 17 0) ((goS (up x 15 (cst 0))) 18 0) ((goS (up x 15 (cst 0))) 19 0) ((goS (up x 15 (cst 0))) 20 0) ((goS (up x 15 (cst 0))) 21 0) ((goS (up x 15 (cst 0))) 22 0) (y 31 0) (y 32 0) (y 33 0) (y 34 0) (y 35 0) (y 36 0) (y 37) (y 38) (y 39)) (cx_rV (q0 := 0) (ci := 5) (rest := []) (As := []) hx hb hml hown hT hK hN hP hD hl.1 tw_846 k_MO_go (c_MO_go l D T H.size q n hn (up x 15 (cst 0)) y (show okX (up x 15 (cst 0)) from ⟨hX.1, (show okR (x 11 0) (x 12 0) (x 13 0) (x 14 0) 0 (x 16 0) (x 17 0) (x 18 0) (x 19 0) (x 20 0) by have h8 := hX.2.1; unfold okR at h8 ⊢; omega), hX.2.2⟩)) ⟨by decide, by decide⟩ ⟨rfl, rfl⟩ [0, 1, 2, 3, 4, 5, 6, 7, 8, 9] (by decide) rfl rfl rfl rfl rfl (Nat.le_of_ble_eq_true rfl) ⟨Nat.zero_le _, Nat.zero_le _⟩ d_MO_branch_214) hP hD hS hA [0, 1, 2, 3, 4, 5, 6, 7, 8, 9] [] [0, 1, 2, 3, 4, 5, 6, 7, 8, 9] rfl (wr := []) rfl (by decide) (by decide) (fun _ => rfl) (by decide) (fun u_ H locs hq214 hP hD hS => ?_)
                refine cx_iconst hx hb d_MO_branch_217 ?_
                exact hret (((goS (up x 15 (cst 0))), y) : SX × SX) (⟨pst_of (by unfold brnS; rw [if_neg (show ¬ y 33 0 = 8 by omega), if_pos (show y 33 0 = 5 by omega), show x 0 (x 11 0 - 1) = v39 by omega, ind_G (by omega) (by omega)]; unfold gof ovo; rw [if_pos (show v39 = 25 by omega), if_pos (show (v39 = 0 ∨ (v39 = 17 ∧ ¬ x 14 0 = 0) ∨ (v39 = 18 ∧ x 14 0 = 0) ∨ (v39 = 19 ∧ x 14 0 < 0) ∨ (v39 = 20 ∧ 0 < x 14 0) ∨ (v39 = 25 ∧ ¬ x 15 0 = 0) ∨ (v39 = 49 ∧ ¬ x 16 0 = 0)) by omega), if_neg (by decide)]) (goS_ok (show okX (up x 15 (cst 0)) from ⟨hX.1, (show okR (x 11 0) (x 12 0) (x 13 0) (x 14 0) 0 (x 16 0) (x 17 0) (x 18 0) (x 19 0) (x 20 0) by have h8 := hX.2.1; unfold okR at h8 ⊢; omega), hX.2.2⟩)), ⟨rfl, rfl⟩⟩) hP hD hS d_MO_branch_218
            · refine cx_iconst hx hb d_MO_branch_150 ?_
              refine lv_goto (tgt := 155) hx hb d_MO_branch_151 rfl ?_
              refine va_put (D := D) (ci := 5) (v := .int (iI (1))) (ty := .boolean) (C := R_MO) (T := T_MO) (N := 28) hx hb hT lays_MO t_MO t_MO_ok n_MO hown hK hP hD hS 0 rfl rfl 8 (by decide) (hT _ tw_644) (fun _ h9 => h9) rfl (by decide +kernel) rfl rfl (Nat.le_of_ble_eq_true rfl) d_MO_branch_155 (fun H locs hP hD hS => ?_)
              have hP : va_P D vwCl (moW T q n (x 0) (x 1) (mkF (x 2) (x 18 0)) (cdF (x 2) (x 18 0)) (x 3) (x 4) (x 11 0) (x 12 0) (x 13 0) (x 14 0) 1 (x 16 0) (x 17 0) (x 18 0) (x 19 0) (x 20 0) (x 21 0) (x 22 0) (y 31 0) (y 32 0) (y 33 0) (y 34 0) (y 35 0) (y 36 0) (y 37) (y 38) (y 39)) H := hP
              have hD : va_D A (moW T q n (x 0) (x 1) (mkF (x 2) (x 18 0)) (cdF (x 2) (x 18 0)) (x 3) (x 4) (x 11 0) (x 12 0) (x 13 0) (x 14 0) 1 (x 16 0) (x 17 0) (x 18 0) (x 19 0) (x 20 0) (x 21 0) (x 22 0) (y 31 0) (y 32 0) (y 33 0) (y 34 0) (y 35 0) (y 36 0) (y 37) (y 38) (y 39)) := hD
              have e15 : (1 : Int) = x 15 0 := by omega
              have hP : va_P D vwCl (moW T q n (x 0) (x 1) (mkF (x 2) (x 18 0)) (cdF (x 2) (x 18 0)) (x 3) (x 4) (x 11 0) (x 12 0) (x 13 0) (x 14 0) (x 15 0) (x 16 0) (x 17 0) (x 18 0) (x 19 0) (x 20 0) (x 21 0) (x 22 0) (y 31 0) (y 32 0) (y 33 0) (y 34 0) (y 35 0) (y 36 0) (y 37) (y 38) (y 39)) H := by rw [← e15]; exact hP
              have hD : va_D A (moW T q n (x 0) (x 1) (mkF (x 2) (x 18 0)) (cdF (x 2) (x 18 0)) (x 3) (x 4) (x 11 0) (x 12 0) (x 13 0) (x 14 0) (x 15 0) (x 16 0) (x 17 0) (x 18 0) (x 19 0) (x 20 0) (x 21 0) (x 22 0) (y 31 0) (y 32 0) (y 33 0) (y 34 0) (y 35 0) (y 36 0) (y 37) (y 38) (y 39)) := by rw [← e15]; exact hD
              refine lv_aload_n hx hb d_MO_branch_158 rfl (lv_at hl 2 rfl) ?_
              refine va_get (D := D) (ci := 5) (v := .int (iI (y 33 0))) (C := R_MO) (T := T_MO) (N := 28) hx hb hT lays_MO hown hK hP 0 rfl rfl 13 (by decide) (hT _ tw_649) (fun _ h9 => h9) rfl d_MO_branch_159 ?_
              refine cx_bipush hx hb d_MO_branch_162 rfl ?_
              refine cx_icmp_ne (tgt := 209) hx hb d_MO_branch_164 rfl (by omega) (by omega) (fun h164 => ?_) (fun h164 => absurd h164 (by omega))
              refine lv_iload_n hx hb d_MO_branch_209 rfl (lv_at hl 0 rfl) ?_
              refine cx_if_eq (tgt := 217) hx hb d_MO_branch_210 rfl (by omega) (fun h210 => ?_) (fun h210 => ?_)
              · refine cx_iconst hx hb d_MO_branch_217 ?_
                exact hret ((x, y) : SX × SX) (⟨pst_of (by unfold brnS; rw [if_neg (show ¬ y 33 0 = 8 by omega), if_pos (show y 33 0 = 5 by omega), show x 0 (x 11 0 - 1) = v39 by omega, ind_G (by omega) (by omega)]; unfold gof ovo; rw [if_neg (show ¬ v39 = 25 by omega), if_neg (show ¬ (v39 = 0 ∨ (v39 = 17 ∧ ¬ x 14 0 = 0) ∨ (v39 = 18 ∧ x 14 0 = 0) ∨ (v39 = 19 ∧ x 14 0 < 0) ∨ (v39 = 20 ∧ 0 < x 14 0) ∨ (v39 = 25 ∧ ¬ x 15 0 = 0) ∨ (v39 = 49 ∧ ¬ x 16 0 = 0)) by omega), if_pos rfl]) hX, ⟨rfl, rfl⟩⟩) hP hD hS d_MO_branch_218
              · refine lv_aload_n hx hb d_MO_branch_213 rfl (lv_at hl 2 rfl) ?_
                refine cx_cV (ws2 := fun _ => moW T q n ((goS x) 0) ((goS x) 1) (mkF ((goS x) 2) ((goS x) 18 0)) (cdF ((goS x) 2) ((goS x) 18 0)) ((goS x) 3) ((goS x) 4) ((goS x) 11 0) ((goS x) 12 0) ((goS x) 13 0) ((goS x) 14 0) ((goS x) 15 0) ((goS x) 16 0) ((goS x) 17 0) ((goS x) 18 0) ((goS x) 19 0) ((goS x) 20 0) ((goS x) 21 0) ((goS x) 22 0) (y 31 0) (y 32 0) (y 33 0) (y 34 0) (y 35 0) (y 36 0) (y 37) (y 38) (y 39)) (cx_rV (q0 := 0) (ci := 5) (rest := []) (As := []) hx hb hml hown hT hK hN hP hD hl.1 tw_846 k_MO_go (c_MO_go l D T H.size q n hn x y hX) ⟨by decide, by decide⟩ ⟨rfl, rfl⟩ [0, 1, 2, 3, 4, 5, 6, 7, 8, 9] (by decide) rfl rfl rfl rfl rfl (Nat.le_of_ble_eq_true rfl) ⟨Nat.zero_le _, Nat.zero_le _⟩ d_MO_branch_214) hP hD hS hA [0, 1, 2, 3, 4, 5, 6, 7, 8, 9] [] [0, 1, 2, 3, 4, 5, 6, 7, 8, 9] rfl (wr := []) rfl (by decide) (by decide) (fun _ => rfl) (by decide) (fun u_ H locs hq214 hP hD hS => ?_)
                refine cx_iconst hx hb d_MO_branch_217 ?_
                exact hret (((goS x), y) : SX × SX) (⟨pst_of (by unfold brnS; rw [if_neg (show ¬ y 33 0 = 8 by omega), if_pos (show y 33 0 = 5 by omega), show x 0 (x 11 0 - 1) = v39 by omega, ind_G (by omega) (by omega)]; unfold gof ovo; rw [if_neg (show ¬ v39 = 25 by omega), if_pos (show (v39 = 0 ∨ (v39 = 17 ∧ ¬ x 14 0 = 0) ∨ (v39 = 18 ∧ x 14 0 = 0) ∨ (v39 = 19 ∧ x 14 0 < 0) ∨ (v39 = 20 ∧ 0 < x 14 0) ∨ (v39 = 25 ∧ ¬ x 15 0 = 0) ∨ (v39 = 49 ∧ ¬ x 16 0 = 0)) by omega), if_neg (by decide)]) (goS_ok hX), ⟨rfl, rfl⟩⟩) hP hD hS d_MO_branch_218
        refine lv_iload_n hx hb d_MO_branch_48 rfl (lv_at hl 0 rfl) ?_
        refine cx_if_eq (tgt := 130) hx hb d_MO_branch_49 rfl (by omega) (fun h49 => ?_) (fun h49 => ?_)
        · refine cx_iconst hx hb d_MO_branch_130 ?_
          refine lv_goto (tgt := 135) hx hb d_MO_branch_131 rfl ?_
          exact J135 1 (by omega)
        · refine lv_iload_n hx hb d_MO_branch_52 rfl (lv_at hl 0 rfl) ?_
          refine cx_bipush hx hb d_MO_branch_53 rfl ?_
          refine cx_icmp_ne (tgt := 65) hx hb d_MO_branch_55 rfl (by omega) (by omega) (fun h55 => ?_) (fun h55 => ?_)
          · refine lv_iload_n hx hb d_MO_branch_65 rfl (lv_at hl 0 rfl) ?_
            refine cx_bipush hx hb d_MO_branch_66 rfl ?_
            refine cx_icmp_ne (tgt := 78) hx hb d_MO_branch_68 rfl (by omega) (by omega) (fun h68 => ?_) (fun h68 => ?_)
            · refine lv_iload_n hx hb d_MO_branch_78 rfl (lv_at hl 0 rfl) ?_
              refine cx_bipush hx hb d_MO_branch_79 rfl ?_
              refine cx_icmp_ne (tgt := 91) hx hb d_MO_branch_81 rfl (by omega) (by omega) (fun h81 => ?_) (fun h81 => ?_)
              · refine lv_iload_n hx hb d_MO_branch_91 rfl (lv_at hl 0 rfl) ?_
                refine cx_bipush hx hb d_MO_branch_92 rfl ?_
                refine cx_icmp_ne (tgt := 104) hx hb d_MO_branch_94 rfl (by omega) (by omega) (fun h94 => ?_) (fun h94 => ?_)
                · refine lv_iload_n hx hb d_MO_branch_104 rfl (lv_at hl 0 rfl) ?_
                  refine cx_bipush hx hb d_MO_branch_105 rfl ?_
                  refine cx_icmp_ne (tgt := 117) hx hb d_MO_branch_107 rfl (by omega) (by omega) (fun h107 => ?_) (fun h107 => ?_)
                  · refine lv_iload_n hx hb d_MO_branch_117 rfl (lv_at hl 0 rfl) ?_
                    refine cx_bipush hx hb d_MO_branch_118 rfl ?_
                    refine cx_icmp_ne (tgt := 134) hx hb d_MO_branch_120 rfl (by omega) (by omega) (fun h120 => ?_) (fun h120 => ?_)
                    · refine cx_iconst hx hb d_MO_branch_134 ?_
                      exact J135 0 (by omega)
                    · refine lv_aload_n hx hb d_MO_branch_123 rfl (lv_at hl 2 rfl) ?_
                      refine va_get (D := D) (ci := 5) (v := .int (iI (x 16 0))) (C := R_MO) (T := T_MO) (N := 28) hx hb hT lays_MO hown hK hP 0 rfl rfl 9 (by decide) (hT _ tw_645) (fun _ h9 => h9) rfl d_MO_branch_124 ?_
                      refine cx_if_eq (tgt := 134) hx hb d_MO_branch_127 rfl (by omega) (fun h127 => ?_) (fun h127 => ?_)
                      · refine cx_iconst hx hb d_MO_branch_134 ?_
                        exact J135 0 (by omega)
                      · refine cx_iconst hx hb d_MO_branch_130 ?_
                        refine lv_goto (tgt := 135) hx hb d_MO_branch_131 rfl ?_
                        exact J135 1 (by omega)
                  · refine lv_aload_n hx hb d_MO_branch_110 rfl (lv_at hl 2 rfl) ?_
                    refine va_get (D := D) (ci := 5) (v := .int (iI (x 15 0))) (C := R_MO) (T := T_MO) (N := 28) hx hb hT lays_MO hown hK hP 0 rfl rfl 8 (by decide) (hT _ tw_644) (fun _ h9 => h9) rfl d_MO_branch_111 ?_
                    refine cx_if_ne (tgt := 130) hx hb d_MO_branch_114 rfl (by omega) (fun h114 => ?_) (fun h114 => ?_)
                    · refine cx_iconst hx hb d_MO_branch_130 ?_
                      refine lv_goto (tgt := 135) hx hb d_MO_branch_131 rfl ?_
                      exact J135 1 (by omega)
                    · refine lv_iload_n hx hb d_MO_branch_117 rfl (lv_at hl 0 rfl) ?_
                      refine cx_bipush hx hb d_MO_branch_118 rfl ?_
                      refine cx_icmp_ne (tgt := 134) hx hb d_MO_branch_120 rfl (by omega) (by omega) (fun h120 => ?_) (fun h120 => ?_)
                      · refine cx_iconst hx hb d_MO_branch_134 ?_
                        exact J135 0 (by omega)
                      · refine lv_aload_n hx hb d_MO_branch_123 rfl (lv_at hl 2 rfl) ?_
                        refine va_get (D := D) (ci := 5) (v := .int (iI (x 16 0))) (C := R_MO) (T := T_MO) (N := 28) hx hb hT lays_MO hown hK hP 0 rfl rfl 9 (by decide) (hT _ tw_645) (fun _ h9 => h9) rfl d_MO_branch_124 ?_
                        refine cx_if_eq (tgt := 134) hx hb d_MO_branch_127 rfl (by omega) (fun h127 => ?_) (fun h127 => ?_)
                        · refine cx_iconst hx hb d_MO_branch_134 ?_
                          exact J135 0 (by omega)
                        · refine cx_iconst hx hb d_MO_branch_130 ?_
                          refine lv_goto (tgt := 135) hx hb d_MO_branch_131 rfl ?_
                          exact J135 1 (by omega)
                · refine lv_aload_n hx hb d_MO_branch_97 rfl (lv_at hl 2 rfl) ?_
                  refine va_get (D := D) (ci := 5) (v := .int (iI (x 14 0))) (C := R_MO) (T := T_MO) (N := 28) hx hb hT lays_MO hown hK hP 0 rfl rfl 7 (by decide) (hT _ tw_643) (fun _ h9 => h9) rfl d_MO_branch_98 ?_
                  refine cx_if_gt (tgt := 130) hx hb d_MO_branch_101 rfl (by omega) (fun h101 => ?_) (fun h101 => ?_)
                  · refine cx_iconst hx hb d_MO_branch_130 ?_
                    refine lv_goto (tgt := 135) hx hb d_MO_branch_131 rfl ?_
                    exact J135 1 (by omega)
                  · refine lv_iload_n hx hb d_MO_branch_104 rfl (lv_at hl 0 rfl) ?_
                    refine cx_bipush hx hb d_MO_branch_105 rfl ?_
                    refine cx_icmp_ne (tgt := 117) hx hb d_MO_branch_107 rfl (by omega) (by omega) (fun h107 => ?_) (fun h107 => ?_)
                    · refine lv_iload_n hx hb d_MO_branch_117 rfl (lv_at hl 0 rfl) ?_
                      refine cx_bipush hx hb d_MO_branch_118 rfl ?_
                      refine cx_icmp_ne (tgt := 134) hx hb d_MO_branch_120 rfl (by omega) (by omega) (fun h120 => ?_) (fun h120 => ?_)
                      · refine cx_iconst hx hb d_MO_branch_134 ?_
                        exact J135 0 (by omega)
                      · refine lv_aload_n hx hb d_MO_branch_123 rfl (lv_at hl 2 rfl) ?_
                        refine va_get (D := D) (ci := 5) (v := .int (iI (x 16 0))) (C := R_MO) (T := T_MO) (N := 28) hx hb hT lays_MO hown hK hP 0 rfl rfl 9 (by decide) (hT _ tw_645) (fun _ h9 => h9) rfl d_MO_branch_124 ?_
                        refine cx_if_eq (tgt := 134) hx hb d_MO_branch_127 rfl (by omega) (fun h127 => ?_) (fun h127 => ?_)
                        · refine cx_iconst hx hb d_MO_branch_134 ?_
                          exact J135 0 (by omega)
                        · refine cx_iconst hx hb d_MO_branch_130 ?_
                          refine lv_goto (tgt := 135) hx hb d_MO_branch_131 rfl ?_
                          exact J135 1 (by omega)
                    · refine lv_aload_n hx hb d_MO_branch_110 rfl (lv_at hl 2 rfl) ?_
                      refine va_get (D := D) (ci := 5) (v := .int (iI (x 15 0))) (C := R_MO) (T := T_MO) (N := 28) hx hb hT lays_MO hown hK hP 0 rfl rfl 8 (by decide) (hT _ tw_644) (fun _ h9 => h9) rfl d_MO_branch_111 ?_
                      refine cx_if_ne (tgt := 130) hx hb d_MO_branch_114 rfl (by omega) (fun h114 => ?_) (fun h114 => ?_)
                      · refine cx_iconst hx hb d_MO_branch_130 ?_
                        refine lv_goto (tgt := 135) hx hb d_MO_branch_131 rfl ?_
                        exact J135 1 (by omega)
                      · refine lv_iload_n hx hb d_MO_branch_117 rfl (lv_at hl 0 rfl) ?_
                        refine cx_bipush hx hb d_MO_branch_118 rfl ?_
                        refine cx_icmp_ne (tgt := 134) hx hb d_MO_branch_120 rfl (by omega) (by omega) (fun h120 => ?_) (fun h120 => ?_)
                        · refine cx_iconst hx hb d_MO_branch_134 ?_
                          exact J135 0 (by omega)
                        · refine lv_aload_n hx hb d_MO_branch_123 rfl (lv_at hl 2 rfl) ?_
                          refine va_get (D := D) (ci := 5) (v := .int (iI (x 16 0))) (C := R_MO) (T := T_MO) (N := 28) hx hb hT lays_MO hown hK hP 0 rfl rfl 9 (by decide) (hT _ tw_645) (fun _ h9 => h9) rfl d_MO_branch_124 ?_
                          refine cx_if_eq (tgt := 134) hx hb d_MO_branch_127 rfl (by omega) (fun h127 => ?_) (fun h127 => ?_)
                          · refine cx_iconst hx hb d_MO_branch_134 ?_
                            exact J135 0 (by omega)
                          · refine cx_iconst hx hb d_MO_branch_130 ?_
                            refine lv_goto (tgt := 135) hx hb d_MO_branch_131 rfl ?_
                            exact J135 1 (by omega)
              · refine lv_aload_n hx hb d_MO_branch_84 rfl (lv_at hl 2 rfl) ?_
                refine va_get (D := D) (ci := 5) (v := .int (iI (x 14 0))) (C := R_MO) (T := T_MO) (N := 28) hx hb hT lays_MO hown hK hP 0 rfl rfl 7 (by decide) (hT _ tw_643) (fun _ h9 => h9) rfl d_MO_branch_85 ?_
                refine cx_if_lt (tgt := 130) hx hb d_MO_branch_88 rfl (by omega) (fun h88 => ?_) (fun h88 => ?_)
                · refine cx_iconst hx hb d_MO_branch_130 ?_
                  refine lv_goto (tgt := 135) hx hb d_MO_branch_131 rfl ?_
                  exact J135 1 (by omega)
                · refine lv_iload_n hx hb d_MO_branch_91 rfl (lv_at hl 0 rfl) ?_
                  refine cx_bipush hx hb d_MO_branch_92 rfl ?_
                  refine cx_icmp_ne (tgt := 104) hx hb d_MO_branch_94 rfl (by omega) (by omega) (fun h94 => ?_) (fun h94 => ?_)
                  · refine lv_iload_n hx hb d_MO_branch_104 rfl (lv_at hl 0 rfl) ?_
                    refine cx_bipush hx hb d_MO_branch_105 rfl ?_
                    refine cx_icmp_ne (tgt := 117) hx hb d_MO_branch_107 rfl (by omega) (by omega) (fun h107 => ?_) (fun h107 => ?_)
                    · refine lv_iload_n hx hb d_MO_branch_117 rfl (lv_at hl 0 rfl) ?_
                      refine cx_bipush hx hb d_MO_branch_118 rfl ?_
                      refine cx_icmp_ne (tgt := 134) hx hb d_MO_branch_120 rfl (by omega) (by omega) (fun h120 => ?_) (fun h120 => ?_)
                      · refine cx_iconst hx hb d_MO_branch_134 ?_
                        exact J135 0 (by omega)
                      · refine lv_aload_n hx hb d_MO_branch_123 rfl (lv_at hl 2 rfl) ?_
                        refine va_get (D := D) (ci := 5) (v := .int (iI (x 16 0))) (C := R_MO) (T := T_MO) (N := 28) hx hb hT lays_MO hown hK hP 0 rfl rfl 9 (by decide) (hT _ tw_645) (fun _ h9 => h9) rfl d_MO_branch_124 ?_
                        refine cx_if_eq (tgt := 134) hx hb d_MO_branch_127 rfl (by omega) (fun h127 => ?_) (fun h127 => ?_)
                        · refine cx_iconst hx hb d_MO_branch_134 ?_
                          exact J135 0 (by omega)
                        · refine cx_iconst hx hb d_MO_branch_130 ?_
                          refine lv_goto (tgt := 135) hx hb d_MO_branch_131 rfl ?_
                          exact J135 1 (by omega)
                    · refine lv_aload_n hx hb d_MO_branch_110 rfl (lv_at hl 2 rfl) ?_
                      refine va_get (D := D) (ci := 5) (v := .int (iI (x 15 0))) (C := R_MO) (T := T_MO) (N := 28) hx hb hT lays_MO hown hK hP 0 rfl rfl 8 (by decide) (hT _ tw_644) (fun _ h9 => h9) rfl d_MO_branch_111 ?_
                      refine cx_if_ne (tgt := 130) hx hb d_MO_branch_114 rfl (by omega) (fun h114 => ?_) (fun h114 => ?_)
                      · refine cx_iconst hx hb d_MO_branch_130 ?_
                        refine lv_goto (tgt := 135) hx hb d_MO_branch_131 rfl ?_
                        exact J135 1 (by omega)
                      · refine lv_iload_n hx hb d_MO_branch_117 rfl (lv_at hl 0 rfl) ?_
                        refine cx_bipush hx hb d_MO_branch_118 rfl ?_
                        refine cx_icmp_ne (tgt := 134) hx hb d_MO_branch_120 rfl (by omega) (by omega) (fun h120 => ?_) (fun h120 => ?_)
                        · refine cx_iconst hx hb d_MO_branch_134 ?_
                          exact J135 0 (by omega)
                        · refine lv_aload_n hx hb d_MO_branch_123 rfl (lv_at hl 2 rfl) ?_
                          refine va_get (D := D) (ci := 5) (v := .int (iI (x 16 0))) (C := R_MO) (T := T_MO) (N := 28) hx hb hT lays_MO hown hK hP 0 rfl rfl 9 (by decide) (hT _ tw_645) (fun _ h9 => h9) rfl d_MO_branch_124 ?_
                          refine cx_if_eq (tgt := 134) hx hb d_MO_branch_127 rfl (by omega) (fun h127 => ?_) (fun h127 => ?_)
                          · refine cx_iconst hx hb d_MO_branch_134 ?_
                            exact J135 0 (by omega)
                          · refine cx_iconst hx hb d_MO_branch_130 ?_
                            refine lv_goto (tgt := 135) hx hb d_MO_branch_131 rfl ?_
                            exact J135 1 (by omega)
                  · refine lv_aload_n hx hb d_MO_branch_97 rfl (lv_at hl 2 rfl) ?_
                    refine va_get (D := D) (ci := 5) (v := .int (iI (x 14 0))) (C := R_MO) (T := T_MO) (N := 28) hx hb hT lays_MO hown hK hP 0 rfl rfl 7 (by decide) (hT _ tw_643) (fun _ h9 => h9) rfl d_MO_branch_98 ?_
                    refine cx_if_gt (tgt := 130) hx hb d_MO_branch_101 rfl (by omega) (fun h101 => ?_) (fun h101 => ?_)
                    · refine cx_iconst hx hb d_MO_branch_130 ?_
                      refine lv_goto (tgt := 135) hx hb d_MO_branch_131 rfl ?_
                      exact J135 1 (by omega)
                    · refine lv_iload_n hx hb d_MO_branch_104 rfl (lv_at hl 0 rfl) ?_
                      refine cx_bipush hx hb d_MO_branch_105 rfl ?_
                      refine cx_icmp_ne (tgt := 117) hx hb d_MO_branch_107 rfl (by omega) (by omega) (fun h107 => ?_) (fun h107 => ?_)
                      · refine lv_iload_n hx hb d_MO_branch_117 rfl (lv_at hl 0 rfl) ?_
                        refine cx_bipush hx hb d_MO_branch_118 rfl ?_
                        refine cx_icmp_ne (tgt := 134) hx hb d_MO_branch_120 rfl (by omega) (by omega) (fun h120 => ?_) (fun h120 => ?_)
                        · refine cx_iconst hx hb d_MO_branch_134 ?_
                          exact J135 0 (by omega)
                        · refine lv_aload_n hx hb d_MO_branch_123 rfl (lv_at hl 2 rfl) ?_
                          refine va_get (D := D) (ci := 5) (v := .int (iI (x 16 0))) (C := R_MO) (T := T_MO) (N := 28) hx hb hT lays_MO hown hK hP 0 rfl rfl 9 (by decide) (hT _ tw_645) (fun _ h9 => h9) rfl d_MO_branch_124 ?_
                          refine cx_if_eq (tgt := 134) hx hb d_MO_branch_127 rfl (by omega) (fun h127 => ?_) (fun h127 => ?_)
                          · refine cx_iconst hx hb d_MO_branch_134 ?_
                            exact J135 0 (by omega)
                          · refine cx_iconst hx hb d_MO_branch_130 ?_
                            refine lv_goto (tgt := 135) hx hb d_MO_branch_131 rfl ?_
                            exact J135 1 (by omega)
                      · refine lv_aload_n hx hb d_MO_branch_110 rfl (lv_at hl 2 rfl) ?_
                        refine va_get (D := D) (ci := 5) (v := .int (iI (x 15 0))) (C := R_MO) (T := T_MO) (N := 28) hx hb hT lays_MO hown hK hP 0 rfl rfl 8 (by decide) (hT _ tw_644) (fun _ h9 => h9) rfl d_MO_branch_111 ?_
                        refine cx_if_ne (tgt := 130) hx hb d_MO_branch_114 rfl (by omega) (fun h114 => ?_) (fun h114 => ?_)
                        · refine cx_iconst hx hb d_MO_branch_130 ?_
                          refine lv_goto (tgt := 135) hx hb d_MO_branch_131 rfl ?_
                          exact J135 1 (by omega)
                        · refine lv_iload_n hx hb d_MO_branch_117 rfl (lv_at hl 0 rfl) ?_
                          refine cx_bipush hx hb d_MO_branch_118 rfl ?_
                          refine cx_icmp_ne (tgt := 134) hx hb d_MO_branch_120 rfl (by omega) (by omega) (fun h120 => ?_) (fun h120 => ?_)
                          · refine cx_iconst hx hb d_MO_branch_134 ?_
                            exact J135 0 (by omega)
                          · refine lv_aload_n hx hb d_MO_branch_123 rfl (lv_at hl 2 rfl) ?_
                            refine va_get (D := D) (ci := 5) (v := .int (iI (x 16 0))) (C := R_MO) (T := T_MO) (N := 28) hx hb hT lays_MO hown hK hP 0 rfl rfl 9 (by decide) (hT _ tw_645) (fun _ h9 => h9) rfl d_MO_branch_124 ?_
                            refine cx_if_eq (tgt := 134) hx hb d_MO_branch_127 rfl (by omega) (fun h127 => ?_) (fun h127 => ?_)
                            · refine cx_iconst hx hb d_MO_branch_134 ?_
                              exact J135 0 (by omega)
                            · refine cx_iconst hx hb d_MO_branch_130 ?_
                              refine lv_goto (tgt := 135) hx hb d_MO_branch_131 rfl ?_
                              exact J135 1 (by omega)
            · refine lv_aload_n hx hb d_MO_branch_71 rfl (lv_at hl 2 rfl) ?_
              refine va_get (D := D) (ci := 5) (v := .int (iI (x 14 0))) (C := R_MO) (T := T_MO) (N := 28) hx hb hT lays_MO hown hK hP 0 rfl rfl 7 (by decide) (hT _ tw_643) (fun _ h9 => h9) rfl d_MO_branch_72 ?_
              refine cx_if_eq (tgt := 130) hx hb d_MO_branch_75 rfl (by omega) (fun h75 => ?_) (fun h75 => ?_)
              · refine cx_iconst hx hb d_MO_branch_130 ?_
                refine lv_goto (tgt := 135) hx hb d_MO_branch_131 rfl ?_
                exact J135 1 (by omega)
              · refine lv_iload_n hx hb d_MO_branch_78 rfl (lv_at hl 0 rfl) ?_
                refine cx_bipush hx hb d_MO_branch_79 rfl ?_
                refine cx_icmp_ne (tgt := 91) hx hb d_MO_branch_81 rfl (by omega) (by omega) (fun h81 => ?_) (fun h81 => ?_)
                · refine lv_iload_n hx hb d_MO_branch_91 rfl (lv_at hl 0 rfl) ?_
                  refine cx_bipush hx hb d_MO_branch_92 rfl ?_
                  refine cx_icmp_ne (tgt := 104) hx hb d_MO_branch_94 rfl (by omega) (by omega) (fun h94 => ?_) (fun h94 => ?_)
                  · refine lv_iload_n hx hb d_MO_branch_104 rfl (lv_at hl 0 rfl) ?_
                    refine cx_bipush hx hb d_MO_branch_105 rfl ?_
                    refine cx_icmp_ne (tgt := 117) hx hb d_MO_branch_107 rfl (by omega) (by omega) (fun h107 => ?_) (fun h107 => ?_)
                    · refine lv_iload_n hx hb d_MO_branch_117 rfl (lv_at hl 0 rfl) ?_
                      refine cx_bipush hx hb d_MO_branch_118 rfl ?_
                      refine cx_icmp_ne (tgt := 134) hx hb d_MO_branch_120 rfl (by omega) (by omega) (fun h120 => ?_) (fun h120 => ?_)
                      · refine cx_iconst hx hb d_MO_branch_134 ?_
                        exact J135 0 (by omega)
                      · refine lv_aload_n hx hb d_MO_branch_123 rfl (lv_at hl 2 rfl) ?_
                        refine va_get (D := D) (ci := 5) (v := .int (iI (x 16 0))) (C := R_MO) (T := T_MO) (N := 28) hx hb hT lays_MO hown hK hP 0 rfl rfl 9 (by decide) (hT _ tw_645) (fun _ h9 => h9) rfl d_MO_branch_124 ?_
                        refine cx_if_eq (tgt := 134) hx hb d_MO_branch_127 rfl (by omega) (fun h127 => ?_) (fun h127 => ?_)
                        · refine cx_iconst hx hb d_MO_branch_134 ?_
                          exact J135 0 (by omega)
                        · refine cx_iconst hx hb d_MO_branch_130 ?_
                          refine lv_goto (tgt := 135) hx hb d_MO_branch_131 rfl ?_
                          exact J135 1 (by omega)
                    · refine lv_aload_n hx hb d_MO_branch_110 rfl (lv_at hl 2 rfl) ?_
                      refine va_get (D := D) (ci := 5) (v := .int (iI (x 15 0))) (C := R_MO) (T := T_MO) (N := 28) hx hb hT lays_MO hown hK hP 0 rfl rfl 8 (by decide) (hT _ tw_644) (fun _ h9 => h9) rfl d_MO_branch_111 ?_
                      refine cx_if_ne (tgt := 130) hx hb d_MO_branch_114 rfl (by omega) (fun h114 => ?_) (fun h114 => ?_)
                      · refine cx_iconst hx hb d_MO_branch_130 ?_
                        refine lv_goto (tgt := 135) hx hb d_MO_branch_131 rfl ?_
                        exact J135 1 (by omega)
                      · refine lv_iload_n hx hb d_MO_branch_117 rfl (lv_at hl 0 rfl) ?_
                        refine cx_bipush hx hb d_MO_branch_118 rfl ?_
                        refine cx_icmp_ne (tgt := 134) hx hb d_MO_branch_120 rfl (by omega) (by omega) (fun h120 => ?_) (fun h120 => ?_)
                        · refine cx_iconst hx hb d_MO_branch_134 ?_
                          exact J135 0 (by omega)
                        · refine lv_aload_n hx hb d_MO_branch_123 rfl (lv_at hl 2 rfl) ?_
                          refine va_get (D := D) (ci := 5) (v := .int (iI (x 16 0))) (C := R_MO) (T := T_MO) (N := 28) hx hb hT lays_MO hown hK hP 0 rfl rfl 9 (by decide) (hT _ tw_645) (fun _ h9 => h9) rfl d_MO_branch_124 ?_
                          refine cx_if_eq (tgt := 134) hx hb d_MO_branch_127 rfl (by omega) (fun h127 => ?_) (fun h127 => ?_)
                          · refine cx_iconst hx hb d_MO_branch_134 ?_
                            exact J135 0 (by omega)
                          · refine cx_iconst hx hb d_MO_branch_130 ?_
                            refine lv_goto (tgt := 135) hx hb d_MO_branch_131 rfl ?_
                            exact J135 1 (by omega)
                  · refine lv_aload_n hx hb d_MO_branch_97 rfl (lv_at hl 2 rfl) ?_
                    refine va_get (D := D) (ci := 5) (v := .int (iI (x 14 0))) (C := R_MO) (T := T_MO) (N := 28) hx hb hT lays_MO hown hK hP 0 rfl rfl 7 (by decide) (hT _ tw_643) (fun _ h9 => h9) rfl d_MO_branch_98 ?_
                    refine cx_if_gt (tgt := 130) hx hb d_MO_branch_101 rfl (by omega) (fun h101 => ?_) (fun h101 => ?_)
                    · refine cx_iconst hx hb d_MO_branch_130 ?_
                      refine lv_goto (tgt := 135) hx hb d_MO_branch_131 rfl ?_
                      exact J135 1 (by omega)
                    · refine lv_iload_n hx hb d_MO_branch_104 rfl (lv_at hl 0 rfl) ?_
                      refine cx_bipush hx hb d_MO_branch_105 rfl ?_
                      refine cx_icmp_ne (tgt := 117) hx hb d_MO_branch_107 rfl (by omega) (by omega) (fun h107 => ?_) (fun h107 => ?_)
                      · refine lv_iload_n hx hb d_MO_branch_117 rfl (lv_at hl 0 rfl) ?_
                        refine cx_bipush hx hb d_MO_branch_118 rfl ?_
                        refine cx_icmp_ne (tgt := 134) hx hb d_MO_branch_120 rfl (by omega) (by omega) (fun h120 => ?_) (fun h120 => ?_)
                        · refine cx_iconst hx hb d_MO_branch_134 ?_
                          exact J135 0 (by omega)
                        · refine lv_aload_n hx hb d_MO_branch_123 rfl (lv_at hl 2 rfl) ?_
                          refine va_get (D := D) (ci := 5) (v := .int (iI (x 16 0))) (C := R_MO) (T := T_MO) (N := 28) hx hb hT lays_MO hown hK hP 0 rfl rfl 9 (by decide) (hT _ tw_645) (fun _ h9 => h9) rfl d_MO_branch_124 ?_
                          refine cx_if_eq (tgt := 134) hx hb d_MO_branch_127 rfl (by omega) (fun h127 => ?_) (fun h127 => ?_)
                          · refine cx_iconst hx hb d_MO_branch_134 ?_
                            exact J135 0 (by omega)
                          · refine cx_iconst hx hb d_MO_branch_130 ?_
                            refine lv_goto (tgt := 135) hx hb d_MO_branch_131 rfl ?_
                            exact J135 1 (by omega)
                      · refine lv_aload_n hx hb d_MO_branch_110 rfl (lv_at hl 2 rfl) ?_
                        refine va_get (D := D) (ci := 5) (v := .int (iI (x 15 0))) (C := R_MO) (T := T_MO) (N := 28) hx hb hT lays_MO hown hK hP 0 rfl rfl 8 (by decide) (hT _ tw_644) (fun _ h9 => h9) rfl d_MO_branch_111 ?_
                        refine cx_if_ne (tgt := 130) hx hb d_MO_branch_114 rfl (by omega) (fun h114 => ?_) (fun h114 => ?_)
                        · refine cx_iconst hx hb d_MO_branch_130 ?_
                          refine lv_goto (tgt := 135) hx hb d_MO_branch_131 rfl ?_
                          exact J135 1 (by omega)
                        · refine lv_iload_n hx hb d_MO_branch_117 rfl (lv_at hl 0 rfl) ?_
                          refine cx_bipush hx hb d_MO_branch_118 rfl ?_
                          refine cx_icmp_ne (tgt := 134) hx hb d_MO_branch_120 rfl (by omega) (by omega) (fun h120 => ?_) (fun h120 => ?_)
                          · refine cx_iconst hx hb d_MO_branch_134 ?_
                            exact J135 0 (by omega)
                          · refine lv_aload_n hx hb d_MO_branch_123 rfl (lv_at hl 2 rfl) ?_
                            refine va_get (D := D) (ci := 5) (v := .int (iI (x 16 0))) (C := R_MO) (T := T_MO) (N := 28) hx hb hT lays_MO hown hK hP 0 rfl rfl 9 (by decide) (hT _ tw_645) (fun _ h9 => h9) rfl d_MO_branch_124 ?_
                            refine cx_if_eq (tgt := 134) hx hb d_MO_branch_127 rfl (by omega) (fun h127 => ?_) (fun h127 => ?_)
                            · refine cx_iconst hx hb d_MO_branch_134 ?_
                              exact J135 0 (by omega)
                            · refine cx_iconst hx hb d_MO_branch_130 ?_
                              refine lv_goto (tgt := 135) hx hb d_MO_branch_131 rfl ?_
                              exact J135 1 (by omega)
                · refine lv_aload_n hx hb d_MO_branch_84 rfl (lv_at hl 2 rfl) ?_
                  refine va_get (D := D) (ci := 5) (v := .int (iI (x 14 0))) (C := R_MO) (T := T_MO) (N := 28) hx hb hT lays_MO hown hK hP 0 rfl rfl 7 (by decide) (hT _ tw_643) (fun _ h9 => h9) rfl d_MO_branch_85 ?_
                  refine cx_if_lt (tgt := 130) hx hb d_MO_branch_88 rfl (by omega) (fun h88 => ?_) (fun h88 => ?_)
                  · refine cx_iconst hx hb d_MO_branch_130 ?_
                    refine lv_goto (tgt := 135) hx hb d_MO_branch_131 rfl ?_
                    exact J135 1 (by omega)
                  · refine lv_iload_n hx hb d_MO_branch_91 rfl (lv_at hl 0 rfl) ?_
                    refine cx_bipush hx hb d_MO_branch_92 rfl ?_
                    refine cx_icmp_ne (tgt := 104) hx hb d_MO_branch_94 rfl (by omega) (by omega) (fun h94 => ?_) (fun h94 => ?_)
                    · refine lv_iload_n hx hb d_MO_branch_104 rfl (lv_at hl 0 rfl) ?_
                      refine cx_bipush hx hb d_MO_branch_105 rfl ?_
                      refine cx_icmp_ne (tgt := 117) hx hb d_MO_branch_107 rfl (by omega) (by omega) (fun h107 => ?_) (fun h107 => ?_)
                      · refine lv_iload_n hx hb d_MO_branch_117 rfl (lv_at hl 0 rfl) ?_
                        refine cx_bipush hx hb d_MO_branch_118 rfl ?_
                        refine cx_icmp_ne (tgt := 134) hx hb d_MO_branch_120 rfl (by omega) (by omega) (fun h120 => ?_) (fun h120 => ?_)
                        · refine cx_iconst hx hb d_MO_branch_134 ?_
                          exact J135 0 (by omega)
                        · refine lv_aload_n hx hb d_MO_branch_123 rfl (lv_at hl 2 rfl) ?_
                          refine va_get (D := D) (ci := 5) (v := .int (iI (x 16 0))) (C := R_MO) (T := T_MO) (N := 28) hx hb hT lays_MO hown hK hP 0 rfl rfl 9 (by decide) (hT _ tw_645) (fun _ h9 => h9) rfl d_MO_branch_124 ?_
                          refine cx_if_eq (tgt := 134) hx hb d_MO_branch_127 rfl (by omega) (fun h127 => ?_) (fun h127 => ?_)
                          · refine cx_iconst hx hb d_MO_branch_134 ?_
                            exact J135 0 (by omega)
                          · refine cx_iconst hx hb d_MO_branch_130 ?_
                            refine lv_goto (tgt := 135) hx hb d_MO_branch_131 rfl ?_
                            exact J135 1 (by omega)
                      · refine lv_aload_n hx hb d_MO_branch_110 rfl (lv_at hl 2 rfl) ?_
                        refine va_get (D := D) (ci := 5) (v := .int (iI (x 15 0))) (C := R_MO) (T := T_MO) (N := 28) hx hb hT lays_MO hown hK hP 0 rfl rfl 8 (by decide) (hT _ tw_644) (fun _ h9 => h9) rfl d_MO_branch_111 ?_
                        refine cx_if_ne (tgt := 130) hx hb d_MO_branch_114 rfl (by omega) (fun h114 => ?_) (fun h114 => ?_)
                        · refine cx_iconst hx hb d_MO_branch_130 ?_
                          refine lv_goto (tgt := 135) hx hb d_MO_branch_131 rfl ?_
                          exact J135 1 (by omega)
                        · refine lv_iload_n hx hb d_MO_branch_117 rfl (lv_at hl 0 rfl) ?_
                          refine cx_bipush hx hb d_MO_branch_118 rfl ?_
                          refine cx_icmp_ne (tgt := 134) hx hb d_MO_branch_120 rfl (by omega) (by omega) (fun h120 => ?_) (fun h120 => ?_)
                          · refine cx_iconst hx hb d_MO_branch_134 ?_
                            exact J135 0 (by omega)
                          · refine lv_aload_n hx hb d_MO_branch_123 rfl (lv_at hl 2 rfl) ?_
                            refine va_get (D := D) (ci := 5) (v := .int (iI (x 16 0))) (C := R_MO) (T := T_MO) (N := 28) hx hb hT lays_MO hown hK hP 0 rfl rfl 9 (by decide) (hT _ tw_645) (fun _ h9 => h9) rfl d_MO_branch_124 ?_
                            refine cx_if_eq (tgt := 134) hx hb d_MO_branch_127 rfl (by omega) (fun h127 => ?_) (fun h127 => ?_)
                            · refine cx_iconst hx hb d_MO_branch_134 ?_
                              exact J135 0 (by omega)
                            · refine cx_iconst hx hb d_MO_branch_130 ?_
                              refine lv_goto (tgt := 135) hx hb d_MO_branch_131 rfl ?_
                              exact J135 1 (by omega)
                    · refine lv_aload_n hx hb d_MO_branch_97 rfl (lv_at hl 2 rfl) ?_
                      refine va_get (D := D) (ci := 5) (v := .int (iI (x 14 0))) (C := R_MO) (T := T_MO) (N := 28) hx hb hT lays_MO hown hK hP 0 rfl rfl 7 (by decide) (hT _ tw_643) (fun _ h9 => h9) rfl d_MO_branch_98 ?_
                      refine cx_if_gt (tgt := 130) hx hb d_MO_branch_101 rfl (by omega) (fun h101 => ?_) (fun h101 => ?_)
                      · refine cx_iconst hx hb d_MO_branch_130 ?_
                        refine lv_goto (tgt := 135) hx hb d_MO_branch_131 rfl ?_
                        exact J135 1 (by omega)
                      · refine lv_iload_n hx hb d_MO_branch_104 rfl (lv_at hl 0 rfl) ?_
                        refine cx_bipush hx hb d_MO_branch_105 rfl ?_
                        refine cx_icmp_ne (tgt := 117) hx hb d_MO_branch_107 rfl (by omega) (by omega) (fun h107 => ?_) (fun h107 => ?_)
                        · refine lv_iload_n hx hb d_MO_branch_117 rfl (lv_at hl 0 rfl) ?_
                          refine cx_bipush hx hb d_MO_branch_118 rfl ?_
                          refine cx_icmp_ne (tgt := 134) hx hb d_MO_branch_120 rfl (by omega) (by omega) (fun h120 => ?_) (fun h120 => ?_)
                          · refine cx_iconst hx hb d_MO_branch_134 ?_
                            exact J135 0 (by omega)
                          · refine lv_aload_n hx hb d_MO_branch_123 rfl (lv_at hl 2 rfl) ?_
                            refine va_get (D := D) (ci := 5) (v := .int (iI (x 16 0))) (C := R_MO) (T := T_MO) (N := 28) hx hb hT lays_MO hown hK hP 0 rfl rfl 9 (by decide) (hT _ tw_645) (fun _ h9 => h9) rfl d_MO_branch_124 ?_
                            refine cx_if_eq (tgt := 134) hx hb d_MO_branch_127 rfl (by omega) (fun h127 => ?_) (fun h127 => ?_)
                            · refine cx_iconst hx hb d_MO_branch_134 ?_
                              exact J135 0 (by omega)
                            · refine cx_iconst hx hb d_MO_branch_130 ?_
                              refine lv_goto (tgt := 135) hx hb d_MO_branch_131 rfl ?_
                              exact J135 1 (by omega)
                        · refine lv_aload_n hx hb d_MO_branch_110 rfl (lv_at hl 2 rfl) ?_
                          refine va_get (D := D) (ci := 5) (v := .int (iI (x 15 0))) (C := R_MO) (T := T_MO) (N := 28) hx hb hT lays_MO hown hK hP 0 rfl rfl 8 (by decide) (hT _ tw_644) (fun _ h9 => h9) rfl d_MO_branch_111 ?_
                          refine cx_if_ne (tgt := 130) hx hb d_MO_branch_114 rfl (by omega) (fun h114 => ?_) (fun h114 => ?_)
                          · refine cx_iconst hx hb d_MO_branch_130 ?_
                            refine lv_goto (tgt := 135) hx hb d_MO_branch_131 rfl ?_
                            exact J135 1 (by omega)
                          · refine lv_iload_n hx hb d_MO_branch_117 rfl (lv_at hl 0 rfl) ?_
                            refine cx_bipush hx hb d_MO_branch_118 rfl ?_
                            refine cx_icmp_ne (tgt := 134) hx hb d_MO_branch_120 rfl (by omega) (by omega) (fun h120 => ?_) (fun h120 => ?_)
                            · refine cx_iconst hx hb d_MO_branch_134 ?_
                              exact J135 0 (by omega)
                            · refine lv_aload_n hx hb d_MO_branch_123 rfl (lv_at hl 2 rfl) ?_
                              refine va_get (D := D) (ci := 5) (v := .int (iI (x 16 0))) (C := R_MO) (T := T_MO) (N := 28) hx hb hT lays_MO hown hK hP 0 rfl rfl 9 (by decide) (hT _ tw_645) (fun _ h9 => h9) rfl d_MO_branch_124 ?_
                              refine cx_if_eq (tgt := 134) hx hb d_MO_branch_127 rfl (by omega) (fun h127 => ?_) (fun h127 => ?_)
                              · refine cx_iconst hx hb d_MO_branch_134 ?_
                                exact J135 0 (by omega)
                              · refine cx_iconst hx hb d_MO_branch_130 ?_
                                refine lv_goto (tgt := 135) hx hb d_MO_branch_131 rfl ?_
                                exact J135 1 (by omega)
          · refine lv_aload_n hx hb d_MO_branch_58 rfl (lv_at hl 2 rfl) ?_
            refine va_get (D := D) (ci := 5) (v := .int (iI (x 14 0))) (C := R_MO) (T := T_MO) (N := 28) hx hb hT lays_MO hown hK hP 0 rfl rfl 7 (by decide) (hT _ tw_643) (fun _ h9 => h9) rfl d_MO_branch_59 ?_
            refine cx_if_ne (tgt := 130) hx hb d_MO_branch_62 rfl (by omega) (fun h62 => ?_) (fun h62 => ?_)
            · refine cx_iconst hx hb d_MO_branch_130 ?_
              refine lv_goto (tgt := 135) hx hb d_MO_branch_131 rfl ?_
              exact J135 1 (by omega)
            · refine lv_iload_n hx hb d_MO_branch_65 rfl (lv_at hl 0 rfl) ?_
              refine cx_bipush hx hb d_MO_branch_66 rfl ?_
              refine cx_icmp_ne (tgt := 78) hx hb d_MO_branch_68 rfl (by omega) (by omega) (fun h68 => ?_) (fun h68 => ?_)
              · refine lv_iload_n hx hb d_MO_branch_78 rfl (lv_at hl 0 rfl) ?_
                refine cx_bipush hx hb d_MO_branch_79 rfl ?_
                refine cx_icmp_ne (tgt := 91) hx hb d_MO_branch_81 rfl (by omega) (by omega) (fun h81 => ?_) (fun h81 => ?_)
                · refine lv_iload_n hx hb d_MO_branch_91 rfl (lv_at hl 0 rfl) ?_
                  refine cx_bipush hx hb d_MO_branch_92 rfl ?_
                  refine cx_icmp_ne (tgt := 104) hx hb d_MO_branch_94 rfl (by omega) (by omega) (fun h94 => ?_) (fun h94 => ?_)
                  · refine lv_iload_n hx hb d_MO_branch_104 rfl (lv_at hl 0 rfl) ?_
                    refine cx_bipush hx hb d_MO_branch_105 rfl ?_
                    refine cx_icmp_ne (tgt := 117) hx hb d_MO_branch_107 rfl (by omega) (by omega) (fun h107 => ?_) (fun h107 => ?_)
                    · refine lv_iload_n hx hb d_MO_branch_117 rfl (lv_at hl 0 rfl) ?_
                      refine cx_bipush hx hb d_MO_branch_118 rfl ?_
                      refine cx_icmp_ne (tgt := 134) hx hb d_MO_branch_120 rfl (by omega) (by omega) (fun h120 => ?_) (fun h120 => ?_)
                      · refine cx_iconst hx hb d_MO_branch_134 ?_
                        exact J135 0 (by omega)
                      · refine lv_aload_n hx hb d_MO_branch_123 rfl (lv_at hl 2 rfl) ?_
                        refine va_get (D := D) (ci := 5) (v := .int (iI (x 16 0))) (C := R_MO) (T := T_MO) (N := 28) hx hb hT lays_MO hown hK hP 0 rfl rfl 9 (by decide) (hT _ tw_645) (fun _ h9 => h9) rfl d_MO_branch_124 ?_
                        refine cx_if_eq (tgt := 134) hx hb d_MO_branch_127 rfl (by omega) (fun h127 => ?_) (fun h127 => ?_)
                        · refine cx_iconst hx hb d_MO_branch_134 ?_
                          exact J135 0 (by omega)
                        · refine cx_iconst hx hb d_MO_branch_130 ?_
                          refine lv_goto (tgt := 135) hx hb d_MO_branch_131 rfl ?_
                          exact J135 1 (by omega)
                    · refine lv_aload_n hx hb d_MO_branch_110 rfl (lv_at hl 2 rfl) ?_
                      refine va_get (D := D) (ci := 5) (v := .int (iI (x 15 0))) (C := R_MO) (T := T_MO) (N := 28) hx hb hT lays_MO hown hK hP 0 rfl rfl 8 (by decide) (hT _ tw_644) (fun _ h9 => h9) rfl d_MO_branch_111 ?_
                      refine cx_if_ne (tgt := 130) hx hb d_MO_branch_114 rfl (by omega) (fun h114 => ?_) (fun h114 => ?_)
                      · refine cx_iconst hx hb d_MO_branch_130 ?_
                        refine lv_goto (tgt := 135) hx hb d_MO_branch_131 rfl ?_
                        exact J135 1 (by omega)
                      · refine lv_iload_n hx hb d_MO_branch_117 rfl (lv_at hl 0 rfl) ?_
                        refine cx_bipush hx hb d_MO_branch_118 rfl ?_
                        refine cx_icmp_ne (tgt := 134) hx hb d_MO_branch_120 rfl (by omega) (by omega) (fun h120 => ?_) (fun h120 => ?_)
                        · refine cx_iconst hx hb d_MO_branch_134 ?_
                          exact J135 0 (by omega)
                        · refine lv_aload_n hx hb d_MO_branch_123 rfl (lv_at hl 2 rfl) ?_
                          refine va_get (D := D) (ci := 5) (v := .int (iI (x 16 0))) (C := R_MO) (T := T_MO) (N := 28) hx hb hT lays_MO hown hK hP 0 rfl rfl 9 (by decide) (hT _ tw_645) (fun _ h9 => h9) rfl d_MO_branch_124 ?_
                          refine cx_if_eq (tgt := 134) hx hb d_MO_branch_127 rfl (by omega) (fun h127 => ?_) (fun h127 => ?_)
                          · refine cx_iconst hx hb d_MO_branch_134 ?_
                            exact J135 0 (by omega)
                          · refine cx_iconst hx hb d_MO_branch_130 ?_
                            refine lv_goto (tgt := 135) hx hb d_MO_branch_131 rfl ?_
                            exact J135 1 (by omega)
                  · refine lv_aload_n hx hb d_MO_branch_97 rfl (lv_at hl 2 rfl) ?_
                    refine va_get (D := D) (ci := 5) (v := .int (iI (x 14 0))) (C := R_MO) (T := T_MO) (N := 28) hx hb hT lays_MO hown hK hP 0 rfl rfl 7 (by decide) (hT _ tw_643) (fun _ h9 => h9) rfl d_MO_branch_98 ?_
                    refine cx_if_gt (tgt := 130) hx hb d_MO_branch_101 rfl (by omega) (fun h101 => ?_) (fun h101 => ?_)
                    · refine cx_iconst hx hb d_MO_branch_130 ?_
                      refine lv_goto (tgt := 135) hx hb d_MO_branch_131 rfl ?_
                      exact J135 1 (by omega)
                    · refine lv_iload_n hx hb d_MO_branch_104 rfl (lv_at hl 0 rfl) ?_
                      refine cx_bipush hx hb d_MO_branch_105 rfl ?_
                      refine cx_icmp_ne (tgt := 117) hx hb d_MO_branch_107 rfl (by omega) (by omega) (fun h107 => ?_) (fun h107 => ?_)
                      · refine lv_iload_n hx hb d_MO_branch_117 rfl (lv_at hl 0 rfl) ?_
                        refine cx_bipush hx hb d_MO_branch_118 rfl ?_
                        refine cx_icmp_ne (tgt := 134) hx hb d_MO_branch_120 rfl (by omega) (by omega) (fun h120 => ?_) (fun h120 => ?_)
                        · refine cx_iconst hx hb d_MO_branch_134 ?_
                          exact J135 0 (by omega)
                        · refine lv_aload_n hx hb d_MO_branch_123 rfl (lv_at hl 2 rfl) ?_
                          refine va_get (D := D) (ci := 5) (v := .int (iI (x 16 0))) (C := R_MO) (T := T_MO) (N := 28) hx hb hT lays_MO hown hK hP 0 rfl rfl 9 (by decide) (hT _ tw_645) (fun _ h9 => h9) rfl d_MO_branch_124 ?_
                          refine cx_if_eq (tgt := 134) hx hb d_MO_branch_127 rfl (by omega) (fun h127 => ?_) (fun h127 => ?_)
                          · refine cx_iconst hx hb d_MO_branch_134 ?_
                            exact J135 0 (by omega)
                          · refine cx_iconst hx hb d_MO_branch_130 ?_
                            refine lv_goto (tgt := 135) hx hb d_MO_branch_131 rfl ?_
                            exact J135 1 (by omega)
                      · refine lv_aload_n hx hb d_MO_branch_110 rfl (lv_at hl 2 rfl) ?_
                        refine va_get (D := D) (ci := 5) (v := .int (iI (x 15 0))) (C := R_MO) (T := T_MO) (N := 28) hx hb hT lays_MO hown hK hP 0 rfl rfl 8 (by decide) (hT _ tw_644) (fun _ h9 => h9) rfl d_MO_branch_111 ?_
                        refine cx_if_ne (tgt := 130) hx hb d_MO_branch_114 rfl (by omega) (fun h114 => ?_) (fun h114 => ?_)
                        · refine cx_iconst hx hb d_MO_branch_130 ?_
                          refine lv_goto (tgt := 135) hx hb d_MO_branch_131 rfl ?_
                          exact J135 1 (by omega)
                        · refine lv_iload_n hx hb d_MO_branch_117 rfl (lv_at hl 0 rfl) ?_
                          refine cx_bipush hx hb d_MO_branch_118 rfl ?_
                          refine cx_icmp_ne (tgt := 134) hx hb d_MO_branch_120 rfl (by omega) (by omega) (fun h120 => ?_) (fun h120 => ?_)
                          · refine cx_iconst hx hb d_MO_branch_134 ?_
                            exact J135 0 (by omega)
                          · refine lv_aload_n hx hb d_MO_branch_123 rfl (lv_at hl 2 rfl) ?_
                            refine va_get (D := D) (ci := 5) (v := .int (iI (x 16 0))) (C := R_MO) (T := T_MO) (N := 28) hx hb hT lays_MO hown hK hP 0 rfl rfl 9 (by decide) (hT _ tw_645) (fun _ h9 => h9) rfl d_MO_branch_124 ?_
                            refine cx_if_eq (tgt := 134) hx hb d_MO_branch_127 rfl (by omega) (fun h127 => ?_) (fun h127 => ?_)
                            · refine cx_iconst hx hb d_MO_branch_134 ?_
                              exact J135 0 (by omega)
                            · refine cx_iconst hx hb d_MO_branch_130 ?_
                              refine lv_goto (tgt := 135) hx hb d_MO_branch_131 rfl ?_
                              exact J135 1 (by omega)
                · refine lv_aload_n hx hb d_MO_branch_84 rfl (lv_at hl 2 rfl) ?_
                  refine va_get (D := D) (ci := 5) (v := .int (iI (x 14 0))) (C := R_MO) (T := T_MO) (N := 28) hx hb hT lays_MO hown hK hP 0 rfl rfl 7 (by decide) (hT _ tw_643) (fun _ h9 => h9) rfl d_MO_branch_85 ?_
                  refine cx_if_lt (tgt := 130) hx hb d_MO_branch_88 rfl (by omega) (fun h88 => ?_) (fun h88 => ?_)
                  · refine cx_iconst hx hb d_MO_branch_130 ?_
                    refine lv_goto (tgt := 135) hx hb d_MO_branch_131 rfl ?_
                    exact J135 1 (by omega)
                  · refine lv_iload_n hx hb d_MO_branch_91 rfl (lv_at hl 0 rfl) ?_
                    refine cx_bipush hx hb d_MO_branch_92 rfl ?_
                    refine cx_icmp_ne (tgt := 104) hx hb d_MO_branch_94 rfl (by omega) (by omega) (fun h94 => ?_) (fun h94 => ?_)
                    · refine lv_iload_n hx hb d_MO_branch_104 rfl (lv_at hl 0 rfl) ?_
                      refine cx_bipush hx hb d_MO_branch_105 rfl ?_
                      refine cx_icmp_ne (tgt := 117) hx hb d_MO_branch_107 rfl (by omega) (by omega) (fun h107 => ?_) (fun h107 => ?_)
                      · refine lv_iload_n hx hb d_MO_branch_117 rfl (lv_at hl 0 rfl) ?_
                        refine cx_bipush hx hb d_MO_branch_118 rfl ?_
                        refine cx_icmp_ne (tgt := 134) hx hb d_MO_branch_120 rfl (by omega) (by omega) (fun h120 => ?_) (fun h120 => ?_)
                        · refine cx_iconst hx hb d_MO_branch_134 ?_
                          exact J135 0 (by omega)
                        · refine lv_aload_n hx hb d_MO_branch_123 rfl (lv_at hl 2 rfl) ?_
                          refine va_get (D := D) (ci := 5) (v := .int (iI (x 16 0))) (C := R_MO) (T := T_MO) (N := 28) hx hb hT lays_MO hown hK hP 0 rfl rfl 9 (by decide) (hT _ tw_645) (fun _ h9 => h9) rfl d_MO_branch_124 ?_
                          refine cx_if_eq (tgt := 134) hx hb d_MO_branch_127 rfl (by omega) (fun h127 => ?_) (fun h127 => ?_)
                          · refine cx_iconst hx hb d_MO_branch_134 ?_
                            exact J135 0 (by omega)
                          · refine cx_iconst hx hb d_MO_branch_130 ?_
                            refine lv_goto (tgt := 135) hx hb d_MO_branch_131 rfl ?_
                            exact J135 1 (by omega)
                      · refine lv_aload_n hx hb d_MO_branch_110 rfl (lv_at hl 2 rfl) ?_
                        refine va_get (D := D) (ci := 5) (v := .int (iI (x 15 0))) (C := R_MO) (T := T_MO) (N := 28) hx hb hT lays_MO hown hK hP 0 rfl rfl 8 (by decide) (hT _ tw_644) (fun _ h9 => h9) rfl d_MO_branch_111 ?_
                        refine cx_if_ne (tgt := 130) hx hb d_MO_branch_114 rfl (by omega) (fun h114 => ?_) (fun h114 => ?_)
                        · refine cx_iconst hx hb d_MO_branch_130 ?_
                          refine lv_goto (tgt := 135) hx hb d_MO_branch_131 rfl ?_
                          exact J135 1 (by omega)
                        · refine lv_iload_n hx hb d_MO_branch_117 rfl (lv_at hl 0 rfl) ?_
                          refine cx_bipush hx hb d_MO_branch_118 rfl ?_
                          refine cx_icmp_ne (tgt := 134) hx hb d_MO_branch_120 rfl (by omega) (by omega) (fun h120 => ?_) (fun h120 => ?_)
                          · refine cx_iconst hx hb d_MO_branch_134 ?_
                            exact J135 0 (by omega)
                          · refine lv_aload_n hx hb d_MO_branch_123 rfl (lv_at hl 2 rfl) ?_
                            refine va_get (D := D) (ci := 5) (v := .int (iI (x 16 0))) (C := R_MO) (T := T_MO) (N := 28) hx hb hT lays_MO hown hK hP 0 rfl rfl 9 (by decide) (hT _ tw_645) (fun _ h9 => h9) rfl d_MO_branch_124 ?_
                            refine cx_if_eq (tgt := 134) hx hb d_MO_branch_127 rfl (by omega) (fun h127 => ?_) (fun h127 => ?_)
                            · refine cx_iconst hx hb d_MO_branch_134 ?_
                              exact J135 0 (by omega)
                            · refine cx_iconst hx hb d_MO_branch_130 ?_
                              refine lv_goto (tgt := 135) hx hb d_MO_branch_131 rfl ?_
                              exact J135 1 (by omega)
                    · refine lv_aload_n hx hb d_MO_branch_97 rfl (lv_at hl 2 rfl) ?_
                      refine va_get (D := D) (ci := 5) (v := .int (iI (x 14 0))) (C := R_MO) (T := T_MO) (N := 28) hx hb hT lays_MO hown hK hP 0 rfl rfl 7 (by decide) (hT _ tw_643) (fun _ h9 => h9) rfl d_MO_branch_98 ?_
                      refine cx_if_gt (tgt := 130) hx hb d_MO_branch_101 rfl (by omega) (fun h101 => ?_) (fun h101 => ?_)
                      · refine cx_iconst hx hb d_MO_branch_130 ?_
                        refine lv_goto (tgt := 135) hx hb d_MO_branch_131 rfl ?_
                        exact J135 1 (by omega)
                      · refine lv_iload_n hx hb d_MO_branch_104 rfl (lv_at hl 0 rfl) ?_
                        refine cx_bipush hx hb d_MO_branch_105 rfl ?_
                        refine cx_icmp_ne (tgt := 117) hx hb d_MO_branch_107 rfl (by omega) (by omega) (fun h107 => ?_) (fun h107 => ?_)
                        · refine lv_iload_n hx hb d_MO_branch_117 rfl (lv_at hl 0 rfl) ?_
                          refine cx_bipush hx hb d_MO_branch_118 rfl ?_
                          refine cx_icmp_ne (tgt := 134) hx hb d_MO_branch_120 rfl (by omega) (by omega) (fun h120 => ?_) (fun h120 => ?_)
                          · refine cx_iconst hx hb d_MO_branch_134 ?_
                            exact J135 0 (by omega)
                          · refine lv_aload_n hx hb d_MO_branch_123 rfl (lv_at hl 2 rfl) ?_
                            refine va_get (D := D) (ci := 5) (v := .int (iI (x 16 0))) (C := R_MO) (T := T_MO) (N := 28) hx hb hT lays_MO hown hK hP 0 rfl rfl 9 (by decide) (hT _ tw_645) (fun _ h9 => h9) rfl d_MO_branch_124 ?_
                            refine cx_if_eq (tgt := 134) hx hb d_MO_branch_127 rfl (by omega) (fun h127 => ?_) (fun h127 => ?_)
                            · refine cx_iconst hx hb d_MO_branch_134 ?_
                              exact J135 0 (by omega)
                            · refine cx_iconst hx hb d_MO_branch_130 ?_
                              refine lv_goto (tgt := 135) hx hb d_MO_branch_131 rfl ?_
                              exact J135 1 (by omega)
                        · refine lv_aload_n hx hb d_MO_branch_110 rfl (lv_at hl 2 rfl) ?_
                          refine va_get (D := D) (ci := 5) (v := .int (iI (x 15 0))) (C := R_MO) (T := T_MO) (N := 28) hx hb hT lays_MO hown hK hP 0 rfl rfl 8 (by decide) (hT _ tw_644) (fun _ h9 => h9) rfl d_MO_branch_111 ?_
                          refine cx_if_ne (tgt := 130) hx hb d_MO_branch_114 rfl (by omega) (fun h114 => ?_) (fun h114 => ?_)
                          · refine cx_iconst hx hb d_MO_branch_130 ?_
                            refine lv_goto (tgt := 135) hx hb d_MO_branch_131 rfl ?_
                            exact J135 1 (by omega)
                          · refine lv_iload_n hx hb d_MO_branch_117 rfl (lv_at hl 0 rfl) ?_
                            refine cx_bipush hx hb d_MO_branch_118 rfl ?_
                            refine cx_icmp_ne (tgt := 134) hx hb d_MO_branch_120 rfl (by omega) (by omega) (fun h120 => ?_) (fun h120 => ?_)
                            · refine cx_iconst hx hb d_MO_branch_134 ?_
                              exact J135 0 (by omega)
                            · refine lv_aload_n hx hb d_MO_branch_123 rfl (lv_at hl 2 rfl) ?_
                              refine va_get (D := D) (ci := 5) (v := .int (iI (x 16 0))) (C := R_MO) (T := T_MO) (N := 28) hx hb hT lays_MO hown hK hP 0 rfl rfl 9 (by decide) (hT _ tw_645) (fun _ h9 => h9) rfl d_MO_branch_124 ?_
                              refine cx_if_eq (tgt := 134) hx hb d_MO_branch_127 rfl (by omega) (fun h127 => ?_) (fun h127 => ?_)
                              · refine cx_iconst hx hb d_MO_branch_134 ?_
                                exact J135 0 (by omega)
                              · refine cx_iconst hx hb d_MO_branch_130 ?_
                                refine lv_goto (tgt := 135) hx hb d_MO_branch_131 rfl ?_
                                exact J135 1 (by omega)
              · refine lv_aload_n hx hb d_MO_branch_71 rfl (lv_at hl 2 rfl) ?_
                refine va_get (D := D) (ci := 5) (v := .int (iI (x 14 0))) (C := R_MO) (T := T_MO) (N := 28) hx hb hT lays_MO hown hK hP 0 rfl rfl 7 (by decide) (hT _ tw_643) (fun _ h9 => h9) rfl d_MO_branch_72 ?_
                refine cx_if_eq (tgt := 130) hx hb d_MO_branch_75 rfl (by omega) (fun h75 => ?_) (fun h75 => ?_)
                · refine cx_iconst hx hb d_MO_branch_130 ?_
                  refine lv_goto (tgt := 135) hx hb d_MO_branch_131 rfl ?_
                  exact J135 1 (by omega)
                · refine lv_iload_n hx hb d_MO_branch_78 rfl (lv_at hl 0 rfl) ?_
                  refine cx_bipush hx hb d_MO_branch_79 rfl ?_
                  refine cx_icmp_ne (tgt := 91) hx hb d_MO_branch_81 rfl (by omega) (by omega) (fun h81 => ?_) (fun h81 => ?_)
                  · refine lv_iload_n hx hb d_MO_branch_91 rfl (lv_at hl 0 rfl) ?_
                    refine cx_bipush hx hb d_MO_branch_92 rfl ?_
                    refine cx_icmp_ne (tgt := 104) hx hb d_MO_branch_94 rfl (by omega) (by omega) (fun h94 => ?_) (fun h94 => ?_)
                    · refine lv_iload_n hx hb d_MO_branch_104 rfl (lv_at hl 0 rfl) ?_
                      refine cx_bipush hx hb d_MO_branch_105 rfl ?_
                      refine cx_icmp_ne (tgt := 117) hx hb d_MO_branch_107 rfl (by omega) (by omega) (fun h107 => ?_) (fun h107 => ?_)
                      · refine lv_iload_n hx hb d_MO_branch_117 rfl (lv_at hl 0 rfl) ?_
                        refine cx_bipush hx hb d_MO_branch_118 rfl ?_
                        refine cx_icmp_ne (tgt := 134) hx hb d_MO_branch_120 rfl (by omega) (by omega) (fun h120 => ?_) (fun h120 => ?_)
                        · refine cx_iconst hx hb d_MO_branch_134 ?_
                          exact J135 0 (by omega)
                        · refine lv_aload_n hx hb d_MO_branch_123 rfl (lv_at hl 2 rfl) ?_
                          refine va_get (D := D) (ci := 5) (v := .int (iI (x 16 0))) (C := R_MO) (T := T_MO) (N := 28) hx hb hT lays_MO hown hK hP 0 rfl rfl 9 (by decide) (hT _ tw_645) (fun _ h9 => h9) rfl d_MO_branch_124 ?_
                          refine cx_if_eq (tgt := 134) hx hb d_MO_branch_127 rfl (by omega) (fun h127 => ?_) (fun h127 => ?_)
                          · refine cx_iconst hx hb d_MO_branch_134 ?_
                            exact J135 0 (by omega)
                          · refine cx_iconst hx hb d_MO_branch_130 ?_
                            refine lv_goto (tgt := 135) hx hb d_MO_branch_131 rfl ?_
                            exact J135 1 (by omega)
                      · refine lv_aload_n hx hb d_MO_branch_110 rfl (lv_at hl 2 rfl) ?_
                        refine va_get (D := D) (ci := 5) (v := .int (iI (x 15 0))) (C := R_MO) (T := T_MO) (N := 28) hx hb hT lays_MO hown hK hP 0 rfl rfl 8 (by decide) (hT _ tw_644) (fun _ h9 => h9) rfl d_MO_branch_111 ?_
                        refine cx_if_ne (tgt := 130) hx hb d_MO_branch_114 rfl (by omega) (fun h114 => ?_) (fun h114 => ?_)
                        · refine cx_iconst hx hb d_MO_branch_130 ?_
                          refine lv_goto (tgt := 135) hx hb d_MO_branch_131 rfl ?_
                          exact J135 1 (by omega)
                        · refine lv_iload_n hx hb d_MO_branch_117 rfl (lv_at hl 0 rfl) ?_
                          refine cx_bipush hx hb d_MO_branch_118 rfl ?_
                          refine cx_icmp_ne (tgt := 134) hx hb d_MO_branch_120 rfl (by omega) (by omega) (fun h120 => ?_) (fun h120 => ?_)
                          · refine cx_iconst hx hb d_MO_branch_134 ?_
                            exact J135 0 (by omega)
                          · refine lv_aload_n hx hb d_MO_branch_123 rfl (lv_at hl 2 rfl) ?_
                            refine va_get (D := D) (ci := 5) (v := .int (iI (x 16 0))) (C := R_MO) (T := T_MO) (N := 28) hx hb hT lays_MO hown hK hP 0 rfl rfl 9 (by decide) (hT _ tw_645) (fun _ h9 => h9) rfl d_MO_branch_124 ?_
                            refine cx_if_eq (tgt := 134) hx hb d_MO_branch_127 rfl (by omega) (fun h127 => ?_) (fun h127 => ?_)
                            · refine cx_iconst hx hb d_MO_branch_134 ?_
                              exact J135 0 (by omega)
                            · refine cx_iconst hx hb d_MO_branch_130 ?_
                              refine lv_goto (tgt := 135) hx hb d_MO_branch_131 rfl ?_
                              exact J135 1 (by omega)
                    · refine lv_aload_n hx hb d_MO_branch_97 rfl (lv_at hl 2 rfl) ?_
                      refine va_get (D := D) (ci := 5) (v := .int (iI (x 14 0))) (C := R_MO) (T := T_MO) (N := 28) hx hb hT lays_MO hown hK hP 0 rfl rfl 7 (by decide) (hT _ tw_643) (fun _ h9 => h9) rfl d_MO_branch_98 ?_
                      refine cx_if_gt (tgt := 130) hx hb d_MO_branch_101 rfl (by omega) (fun h101 => ?_) (fun h101 => ?_)
                      · refine cx_iconst hx hb d_MO_branch_130 ?_
                        refine lv_goto (tgt := 135) hx hb d_MO_branch_131 rfl ?_
                        exact J135 1 (by omega)
                      · refine lv_iload_n hx hb d_MO_branch_104 rfl (lv_at hl 0 rfl) ?_
                        refine cx_bipush hx hb d_MO_branch_105 rfl ?_
                        refine cx_icmp_ne (tgt := 117) hx hb d_MO_branch_107 rfl (by omega) (by omega) (fun h107 => ?_) (fun h107 => ?_)
                        · refine lv_iload_n hx hb d_MO_branch_117 rfl (lv_at hl 0 rfl) ?_
                          refine cx_bipush hx hb d_MO_branch_118 rfl ?_
                          refine cx_icmp_ne (tgt := 134) hx hb d_MO_branch_120 rfl (by omega) (by omega) (fun h120 => ?_) (fun h120 => ?_)
                          · refine cx_iconst hx hb d_MO_branch_134 ?_
                            exact J135 0 (by omega)
                          · refine lv_aload_n hx hb d_MO_branch_123 rfl (lv_at hl 2 rfl) ?_
                            refine va_get (D := D) (ci := 5) (v := .int (iI (x 16 0))) (C := R_MO) (T := T_MO) (N := 28) hx hb hT lays_MO hown hK hP 0 rfl rfl 9 (by decide) (hT _ tw_645) (fun _ h9 => h9) rfl d_MO_branch_124 ?_
                            refine cx_if_eq (tgt := 134) hx hb d_MO_branch_127 rfl (by omega) (fun h127 => ?_) (fun h127 => ?_)
                            · refine cx_iconst hx hb d_MO_branch_134 ?_
                              exact J135 0 (by omega)
                            · refine cx_iconst hx hb d_MO_branch_130 ?_
                              refine lv_goto (tgt := 135) hx hb d_MO_branch_131 rfl ?_
                              exact J135 1 (by omega)
                        · refine lv_aload_n hx hb d_MO_branch_110 rfl (lv_at hl 2 rfl) ?_
                          refine va_get (D := D) (ci := 5) (v := .int (iI (x 15 0))) (C := R_MO) (T := T_MO) (N := 28) hx hb hT lays_MO hown hK hP 0 rfl rfl 8 (by decide) (hT _ tw_644) (fun _ h9 => h9) rfl d_MO_branch_111 ?_
                          refine cx_if_ne (tgt := 130) hx hb d_MO_branch_114 rfl (by omega) (fun h114 => ?_) (fun h114 => ?_)
                          · refine cx_iconst hx hb d_MO_branch_130 ?_
                            refine lv_goto (tgt := 135) hx hb d_MO_branch_131 rfl ?_
                            exact J135 1 (by omega)
                          · refine lv_iload_n hx hb d_MO_branch_117 rfl (lv_at hl 0 rfl) ?_
                            refine cx_bipush hx hb d_MO_branch_118 rfl ?_
                            refine cx_icmp_ne (tgt := 134) hx hb d_MO_branch_120 rfl (by omega) (by omega) (fun h120 => ?_) (fun h120 => ?_)
                            · refine cx_iconst hx hb d_MO_branch_134 ?_
                              exact J135 0 (by omega)
                            · refine lv_aload_n hx hb d_MO_branch_123 rfl (lv_at hl 2 rfl) ?_
                              refine va_get (D := D) (ci := 5) (v := .int (iI (x 16 0))) (C := R_MO) (T := T_MO) (N := 28) hx hb hT lays_MO hown hK hP 0 rfl rfl 9 (by decide) (hT _ tw_645) (fun _ h9 => h9) rfl d_MO_branch_124 ?_
                              refine cx_if_eq (tgt := 134) hx hb d_MO_branch_127 rfl (by omega) (fun h127 => ?_) (fun h127 => ?_)
                              · refine cx_iconst hx hb d_MO_branch_134 ?_
                                exact J135 0 (by omega)
                              · refine cx_iconst hx hb d_MO_branch_130 ?_
                                refine lv_goto (tgt := 135) hx hb d_MO_branch_131 rfl ?_
                                exact J135 1 (by omega)
                  · refine lv_aload_n hx hb d_MO_branch_84 rfl (lv_at hl 2 rfl) ?_
                    refine va_get (D := D) (ci := 5) (v := .int (iI (x 14 0))) (C := R_MO) (T := T_MO) (N := 28) hx hb hT lays_MO hown hK hP 0 rfl rfl 7 (by decide) (hT _ tw_643) (fun _ h9 => h9) rfl d_MO_branch_85 ?_
                    refine cx_if_lt (tgt := 130) hx hb d_MO_branch_88 rfl (by omega) (fun h88 => ?_) (fun h88 => ?_)
                    · refine cx_iconst hx hb d_MO_branch_130 ?_
                      refine lv_goto (tgt := 135) hx hb d_MO_branch_131 rfl ?_
                      exact J135 1 (by omega)
                    · refine lv_iload_n hx hb d_MO_branch_91 rfl (lv_at hl 0 rfl) ?_
                      refine cx_bipush hx hb d_MO_branch_92 rfl ?_
                      refine cx_icmp_ne (tgt := 104) hx hb d_MO_branch_94 rfl (by omega) (by omega) (fun h94 => ?_) (fun h94 => ?_)
                      · refine lv_iload_n hx hb d_MO_branch_104 rfl (lv_at hl 0 rfl) ?_
                        refine cx_bipush hx hb d_MO_branch_105 rfl ?_
                        refine cx_icmp_ne (tgt := 117) hx hb d_MO_branch_107 rfl (by omega) (by omega) (fun h107 => ?_) (fun h107 => ?_)
                        · refine lv_iload_n hx hb d_MO_branch_117 rfl (lv_at hl 0 rfl) ?_
                          refine cx_bipush hx hb d_MO_branch_118 rfl ?_
                          refine cx_icmp_ne (tgt := 134) hx hb d_MO_branch_120 rfl (by omega) (by omega) (fun h120 => ?_) (fun h120 => ?_)
                          · refine cx_iconst hx hb d_MO_branch_134 ?_
                            exact J135 0 (by omega)
                          · refine lv_aload_n hx hb d_MO_branch_123 rfl (lv_at hl 2 rfl) ?_
                            refine va_get (D := D) (ci := 5) (v := .int (iI (x 16 0))) (C := R_MO) (T := T_MO) (N := 28) hx hb hT lays_MO hown hK hP 0 rfl rfl 9 (by decide) (hT _ tw_645) (fun _ h9 => h9) rfl d_MO_branch_124 ?_
                            refine cx_if_eq (tgt := 134) hx hb d_MO_branch_127 rfl (by omega) (fun h127 => ?_) (fun h127 => ?_)
                            · refine cx_iconst hx hb d_MO_branch_134 ?_
                              exact J135 0 (by omega)
                            · refine cx_iconst hx hb d_MO_branch_130 ?_
                              refine lv_goto (tgt := 135) hx hb d_MO_branch_131 rfl ?_
                              exact J135 1 (by omega)
                        · refine lv_aload_n hx hb d_MO_branch_110 rfl (lv_at hl 2 rfl) ?_
                          refine va_get (D := D) (ci := 5) (v := .int (iI (x 15 0))) (C := R_MO) (T := T_MO) (N := 28) hx hb hT lays_MO hown hK hP 0 rfl rfl 8 (by decide) (hT _ tw_644) (fun _ h9 => h9) rfl d_MO_branch_111 ?_
                          refine cx_if_ne (tgt := 130) hx hb d_MO_branch_114 rfl (by omega) (fun h114 => ?_) (fun h114 => ?_)
                          · refine cx_iconst hx hb d_MO_branch_130 ?_
                            refine lv_goto (tgt := 135) hx hb d_MO_branch_131 rfl ?_
                            exact J135 1 (by omega)
                          · refine lv_iload_n hx hb d_MO_branch_117 rfl (lv_at hl 0 rfl) ?_
                            refine cx_bipush hx hb d_MO_branch_118 rfl ?_
                            refine cx_icmp_ne (tgt := 134) hx hb d_MO_branch_120 rfl (by omega) (by omega) (fun h120 => ?_) (fun h120 => ?_)
                            · refine cx_iconst hx hb d_MO_branch_134 ?_
                              exact J135 0 (by omega)
                            · refine lv_aload_n hx hb d_MO_branch_123 rfl (lv_at hl 2 rfl) ?_
                              refine va_get (D := D) (ci := 5) (v := .int (iI (x 16 0))) (C := R_MO) (T := T_MO) (N := 28) hx hb hT lays_MO hown hK hP 0 rfl rfl 9 (by decide) (hT _ tw_645) (fun _ h9 => h9) rfl d_MO_branch_124 ?_
                              refine cx_if_eq (tgt := 134) hx hb d_MO_branch_127 rfl (by omega) (fun h127 => ?_) (fun h127 => ?_)
                              · refine cx_iconst hx hb d_MO_branch_134 ?_
                                exact J135 0 (by omega)
                              · refine cx_iconst hx hb d_MO_branch_130 ?_
                                refine lv_goto (tgt := 135) hx hb d_MO_branch_131 rfl ?_
                                exact J135 1 (by omega)
                      · refine lv_aload_n hx hb d_MO_branch_97 rfl (lv_at hl 2 rfl) ?_
                        refine va_get (D := D) (ci := 5) (v := .int (iI (x 14 0))) (C := R_MO) (T := T_MO) (N := 28) hx hb hT lays_MO hown hK hP 0 rfl rfl 7 (by decide) (hT _ tw_643) (fun _ h9 => h9) rfl d_MO_branch_98 ?_
                        refine cx_if_gt (tgt := 130) hx hb d_MO_branch_101 rfl (by omega) (fun h101 => ?_) (fun h101 => ?_)
                        · refine cx_iconst hx hb d_MO_branch_130 ?_
                          refine lv_goto (tgt := 135) hx hb d_MO_branch_131 rfl ?_
                          exact J135 1 (by omega)
                        · refine lv_iload_n hx hb d_MO_branch_104 rfl (lv_at hl 0 rfl) ?_
                          refine cx_bipush hx hb d_MO_branch_105 rfl ?_
                          refine cx_icmp_ne (tgt := 117) hx hb d_MO_branch_107 rfl (by omega) (by omega) (fun h107 => ?_) (fun h107 => ?_)
                          · refine lv_iload_n hx hb d_MO_branch_117 rfl (lv_at hl 0 rfl) ?_
                            refine cx_bipush hx hb d_MO_branch_118 rfl ?_
                            refine cx_icmp_ne (tgt := 134) hx hb d_MO_branch_120 rfl (by omega) (by omega) (fun h120 => ?_) (fun h120 => ?_)
                            · refine cx_iconst hx hb d_MO_branch_134 ?_
                              exact J135 0 (by omega)
                            · refine lv_aload_n hx hb d_MO_branch_123 rfl (lv_at hl 2 rfl) ?_
                              refine va_get (D := D) (ci := 5) (v := .int (iI (x 16 0))) (C := R_MO) (T := T_MO) (N := 28) hx hb hT lays_MO hown hK hP 0 rfl rfl 9 (by decide) (hT _ tw_645) (fun _ h9 => h9) rfl d_MO_branch_124 ?_
                              refine cx_if_eq (tgt := 134) hx hb d_MO_branch_127 rfl (by omega) (fun h127 => ?_) (fun h127 => ?_)
                              · refine cx_iconst hx hb d_MO_branch_134 ?_
                                exact J135 0 (by omega)
                              · refine cx_iconst hx hb d_MO_branch_130 ?_
                                refine lv_goto (tgt := 135) hx hb d_MO_branch_131 rfl ?_
                                exact J135 1 (by omega)
                          · refine lv_aload_n hx hb d_MO_branch_110 rfl (lv_at hl 2 rfl) ?_
                            refine va_get (D := D) (ci := 5) (v := .int (iI (x 15 0))) (C := R_MO) (T := T_MO) (N := 28) hx hb hT lays_MO hown hK hP 0 rfl rfl 8 (by decide) (hT _ tw_644) (fun _ h9 => h9) rfl d_MO_branch_111 ?_
                            refine cx_if_ne (tgt := 130) hx hb d_MO_branch_114 rfl (by omega) (fun h114 => ?_) (fun h114 => ?_)
                            · refine cx_iconst hx hb d_MO_branch_130 ?_
                              refine lv_goto (tgt := 135) hx hb d_MO_branch_131 rfl ?_
                              exact J135 1 (by omega)
                            · refine lv_iload_n hx hb d_MO_branch_117 rfl (lv_at hl 0 rfl) ?_
                              refine cx_bipush hx hb d_MO_branch_118 rfl ?_
                              refine cx_icmp_ne (tgt := 134) hx hb d_MO_branch_120 rfl (by omega) (by omega) (fun h120 => ?_) (fun h120 => ?_)
                              · refine cx_iconst hx hb d_MO_branch_134 ?_
                                exact J135 0 (by omega)
                              · refine lv_aload_n hx hb d_MO_branch_123 rfl (lv_at hl 2 rfl) ?_
                                refine va_get (D := D) (ci := 5) (v := .int (iI (x 16 0))) (C := R_MO) (T := T_MO) (N := 28) hx hb hT lays_MO hown hK hP 0 rfl rfl 9 (by decide) (hT _ tw_645) (fun _ h9 => h9) rfl d_MO_branch_124 ?_
                                refine cx_if_eq (tgt := 134) hx hb d_MO_branch_127 rfl (by omega) (fun h127 => ?_) (fun h127 => ?_)
                                · refine cx_iconst hx hb d_MO_branch_134 ?_
                                  exact J135 0 (by omega)
                                · refine cx_iconst hx hb d_MO_branch_130 ?_
                                  refine lv_goto (tgt := 135) hx hb d_MO_branch_131 rfl ?_
                                  exact J135 1 (by omega)
    refine lv_aload_n hx hb d_MO_branch_14 rfl (lv_at hl 1 rfl) ?_
    refine va_get (D := D) (ci := 5) (v := .int (iI (y 33 0))) (C := R_MO) (T := T_MO) (N := 28) hx hb hT lays_MO hown hK hP 0 rfl rfl 13 (by decide) (hT _ tw_649) (fun _ h9 => h9) rfl d_MO_branch_15 ?_
    refine cx_iconst hx hb d_MO_branch_18 ?_
    refine cx_icmp_eq (tgt := 31) hx hb d_MO_branch_19 rfl (by omega) (by omega) (fun h19 => ?_) (fun h19 => ?_)
    · refine lv_aload_n hx hb d_MO_branch_31 rfl (lv_at hl 1 rfl) ?_
      refine cx_cI (ws2 := fun _ => moW T q n (x 0) (x 1) (mkF (x 2) (x 18 0)) (cdF (x 2) (x 18 0)) (x 3) (x 4) (x 11 0) (x 12 0) (x 13 0) (x 14 0) (x 15 0) (x 16 0) (x 17 0) (x 18 0) (x 19 0) (x 20 0) (x 21 0) (x 22 0) (y 31 0) (y 32 0) (y 33 0) (y 34 0) (y 35 0) (y 36 0) (y 37) (y 38) (y 39)) (cx_rV (q0 := 0) (ci := 5) (rest := []) (As := []) hx hb hml hown hT hK hN hP hD hl.1 tw_858 k_MO_modifier (c_MO_modifier l D T s.heap.size q n hn x y hX (by omega)) ⟨by decide, by decide⟩ ⟨rfl, rfl⟩ [0, 1, 2, 3, 4, 5, 6, 7, 8, 9] (by decide) rfl rfl rfl rfl rfl (Nat.le_of_ble_eq_true rfl) ⟨Nat.zero_le _, Nat.zero_le _⟩ d_MO_branch_32) hP hD hS hA [0, 1, 2, 3, 4, 5, 6, 7, 8, 9] [] [0, 1, 2, 3, 4, 5, 6, 7, 8, 9] rfl (wr := []) rfl (by decide) (by decide) (fun _ => rfl) (by decide) (fun r u_ H locs hq32 hP hD hS => ?_)
      subst hq32
      refine cx_eq (y := iI ((x 0) (y 34 0 + y 33 0 - 1))) rfl ?_
      refine lv_goto (tgt := 39) hx hb d_MO_branch_35 rfl ?_
      exact J39 ((x 0) (y 34 0 + y 33 0 - 1)) _ _ (by rw [show x 11 0 - 1 = y 34 0 + y 33 0 - 1 by omega]; omega) hP hD hS
    · refine lv_aload_n hx hb d_MO_branch_22 rfl (lv_at hl 1 rfl) ?_
      refine va_get (D := D) (ci := 5) (v := .int (iI (y 33 0))) (C := R_MO) (T := T_MO) (N := 28) hx hb hT lays_MO hown hK hP 0 rfl rfl 13 (by decide) (hT _ tw_649) (fun _ h9 => h9) rfl d_MO_branch_23 ?_
      refine cx_bipush hx hb d_MO_branch_26 rfl ?_
      refine cx_icmp_ne (tgt := 38) hx hb d_MO_branch_28 rfl (by omega) (by omega) (fun h28 => ?_) (fun h28 => ?_)
      · refine cx_iconst hx hb d_MO_branch_38 ?_
        exact J39 (-1) _ _ (by omega) hP hD hS
      · refine lv_aload_n hx hb d_MO_branch_31 rfl (lv_at hl 1 rfl) ?_
        refine cx_cI (ws2 := fun _ => moW T q n (x 0) (x 1) (mkF (x 2) (x 18 0)) (cdF (x 2) (x 18 0)) (x 3) (x 4) (x 11 0) (x 12 0) (x 13 0) (x 14 0) (x 15 0) (x 16 0) (x 17 0) (x 18 0) (x 19 0) (x 20 0) (x 21 0) (x 22 0) (y 31 0) (y 32 0) (y 33 0) (y 34 0) (y 35 0) (y 36 0) (y 37) (y 38) (y 39)) (cx_rV (q0 := 0) (ci := 5) (rest := []) (As := []) hx hb hml hown hT hK hN hP hD hl.1 tw_858 k_MO_modifier (c_MO_modifier l D T s.heap.size q n hn x y hX (by omega)) ⟨by decide, by decide⟩ ⟨rfl, rfl⟩ [0, 1, 2, 3, 4, 5, 6, 7, 8, 9] (by decide) rfl rfl rfl rfl rfl (Nat.le_of_ble_eq_true rfl) ⟨Nat.zero_le _, Nat.zero_le _⟩ d_MO_branch_32) hP hD hS hA [0, 1, 2, 3, 4, 5, 6, 7, 8, 9] [] [0, 1, 2, 3, 4, 5, 6, 7, 8, 9] rfl (wr := []) rfl (by decide) (by decide) (fun _ => rfl) (by decide) (fun r u_ H locs hq32 hP hD hS => ?_)
        subst hq32
        refine cx_eq (y := iI ((x 0) (y 34 0 + y 33 0 - 1))) rfl ?_
        refine lv_goto (tgt := 39) hx hb d_MO_branch_35 rfl ?_
        exact J39 ((x 0) (y 34 0 + y 33 0 - 1)) _ _ (by rw [show x 11 0 - 1 = y 34 0 + y 33 0 - 1 by omega]; omega) hP hD hS
  refine lv_aload_n hx hb d_MO_branch_0 rfl (lv_at hl 0 rfl) ?_
  refine va_get (D := D) (ci := 5) (v := .int (iI (y 33 0))) (C := R_MO) (T := T_MO) (N := 28) hx hb hT lays_MO hown hK hP 0 rfl rfl 13 (by decide) (hT _ tw_649) (fun _ h9 => h9) rfl d_MO_branch_1 ?_
  refine cx_iconst hx hb d_MO_branch_4 ?_
  refine cx_icmp_ge (tgt := 12) hx hb d_MO_branch_5 rfl (by omega) (by omega) (fun h5 => ?_) (fun h5 => ?_)
  · refine cx_iconst hx hb d_MO_branch_12 ?_
    exact J13 0 (by omega)
  · refine cx_iconst hx hb d_MO_branch_8 ?_
    refine lv_goto (tgt := 13) hx hb d_MO_branch_9 rfl ?_
    exact J13 1 (by omega)

set_option maxHeartbeats 4000000 in
set_option maxRecDepth 100000 in
theorem c_MO_branchMark (l : Launch) (D : va_G) (T : Nat → ClassId) (sz : Nat) (q : Nat → Nat) (n : Nat) (hn : 400 ≤ n ∧ n ≤ 2000) (x y : SX) (hX : okX x) (hY : (0 ≤ y 32 0 ∧ y 32 0 < 64) ∧ (1 ≤ y 33 0 ∧ y 33 0 ≤ 8)) (hI : x 11 0 = y 34 0 + y 33 0 ∧ 1 ≤ x 11 0 ∧ x 11 0 ≤ n) : MI l y_MO_branchMark (wY y_MO_branchMark b_MO_branchMark 5 (some .int)) (rmK 1) D vwCl (tyL T) nwL sz [.ref (q 20)] (moW T q n (x 0) (x 1) (mkF (x 2) (x 18 0)) (cdF (x 2) (x 18 0)) (x 3) (x 4) (x 11 0) (x 12 0) (x 13 0) (x 14 0) (x 15 0) (x 16 0) (x 17 0) (x 18 0) (x 19 0) (x 20 0) (x 21 0) (x 22 0) (y 31 0) (y 32 0) (y 33 0) (y 34 0) (y 35 0) (y 36 0) (y 37) (y 38) (y 39)) (fun r (u : SX × SX) => pst (bpsS n x) r u.1 ∧ (u.2 31 = y 31 ∧ u.2 33 = y 33)) (fun (u : SX × SX) => moX T q n u.1 u.2) := by
  refine cx_inI (by decide) rfl (Nat.le_of_ble_eq_true rfl) ?_
  intro p e s m below meth cd ls A Q hx hb hml hT hown hret hP hK hD hN hS hA hl
  have hown : s.vm.findClass R_MO = some m.cls := hown
  have hl : lv_has ls 5 [(0, .ref (q 20))] := hl
  have hC := hX.1
  have hR0 := hX.2.1
  have hF := hX.2.2
  unfold okR at hR0
  refine lv_aload_n hx hb d_MO_branchMark_0 rfl (lv_at hl 0 rfl) ?_
  refine lv_aload_n hx hb d_MO_branchMark_1 rfl (lv_at hl 0 rfl) ?_
  refine va_get (D := D) (ci := 5) (v := .int (iI (x 13 0))) (C := R_MO) (T := T_MO) (N := 28) hx hb hT lays_MO hown hK hP 0 rfl rfl 6 (by decide) (hT _ tw_642) (fun _ h9 => h9) rfl d_MO_branchMark_2 ?_
  refine cx_cI (ws2 := fun _ => moW T q n (x 0) (x 1) (mkF (x 2) (x 18 0)) (cdF (x 2) (x 18 0)) (x 3) (x 4) (x 11 0) (x 12 0) (x 13 0) (x 14 0) (x 15 0) (x 16 0) (x 17 0) (x 18 0) (x 19 0) (x 20 0) (x 21 0) (x 22 0) (y 31 0) (y 32 0) (y 33 0) (y 34 0) (y 35 0) (y 36 0) (y 37) (y 38) (y 39)) (cx_rV (q0 := 0) (ci := 5) (rest := []) (As := [.int (iI (x 13 0))]) hx hb hml hown hT hK hN hP hD hl.1 tw_731 k_MO_is (c_MO_is l D T s.heap.size q n hn x y hX (x 13 0) (by omega)) ⟨by decide, by decide⟩ ⟨rfl, rfl⟩ [0, 1, 2, 3, 4, 5, 6, 7, 8, 9] (by decide) rfl rfl rfl rfl rfl (Nat.le_of_ble_eq_true rfl) ⟨Nat.zero_le _, Nat.zero_le _⟩ d_MO_branchMark_5) hP hD hS hA [0, 1, 2, 3, 4, 5, 6, 7, 8, 9] [] [0, 1, 2, 3, 4, 5, 6, 7, 8, 9] rfl (wr := []) rfl (by decide) (by decide) (fun _ => rfl) (by decide) (fun r u_ H locs hq5 hP hD hS => ?_)
  rcases hq5 with ⟨rfl, h5⟩ | ⟨rfl, h5⟩
  · refine cx_if_ne (tgt := 13) hx hb d_MO_branchMark_8 rfl (by omega) (fun _ => ?_) (fun h0 => absurd h0 (by decide))
    refine lv_aload_n hx hb d_MO_branchMark_13 rfl (lv_at hl 0 rfl) ?_
    refine cx_cI (ws2 := fun _ => moW T q n (x 0) (x 1) (mkF (x 2) (x 18 0)) (cdF (x 2) (x 18 0)) (x 3) (x 4) (x 11 0) (x 12 0) (x 13 0) (x 14 0) (x 15 0) (x 16 0) (x 17 0) (x 18 0) (x 19 0) (x 20 0) (x 21 0) (x 22 0) (y 31 0) (y 32 0) (y 33 0) (y 34 0) (y 35 0) (y 36 0) (y 37) (y 38) (y 39)) (cx_rV (q0 := 0) (ci := 5) (rest := []) (As := []) hx hb hml hown hT hK hN hP hD hl.1 tw_858 k_MO_modifier (c_MO_modifier l D T H.size q n hn x y hX (by omega)) ⟨by decide, by decide⟩ ⟨rfl, rfl⟩ [0, 1, 2, 3, 4, 5, 6, 7, 8, 9] (by decide) rfl rfl rfl rfl rfl (Nat.le_of_ble_eq_true rfl) ⟨Nat.zero_le _, Nat.zero_le _⟩ d_MO_branchMark_14) hP hD hS hA [0, 1, 2, 3, 4, 5, 6, 7, 8, 9] [] [0, 1, 2, 3, 4, 5, 6, 7, 8, 9] rfl (wr := []) rfl (by decide) (by decide) (fun _ => rfl) (by decide) (fun r u_ H locs hq14 hP hD hS => ?_)
    subst hq14
    refine cx_eq (y := iI ((x 0) (y 34 0 + y 33 0 - 1))) rfl ?_
    refine lv_istore_n (lv' := [(1, .int (iI ((x 0) (y 34 0 + y 33 0 - 1)))), (0, .ref (q 20))]) hx hb d_MO_branchMark_17 rfl hl (by decide) rfl (fun ls hl => ?_)
    have hcm := hC.1 (y 34 0 + y 33 0 - 1)
    have hz1 := zn_in hcm
    have hz2 := zn_in (hC.1 (x 13 0))
    have hmB := hC.2 (x 13 0)
    have J51 : ∀ v51 : Int, ((v51 = 1 ∧ (x 0 (y 34 0 + y 33 0 - 1) = 1 ∨ x 0 (y 34 0 + y 33 0 - 1) = 3 ∨ x 0 (y 34 0 + y 33 0 - 1) = 51 ∨ x 0 (y 34 0 + y 33 0 - 1) = 35 ∨ x 0 (y 34 0 + y 33 0 - 1) = 19)) ∨ (v51 = 0 ∧ ¬ (x 0 (y 34 0 + y 33 0 - 1) = 1 ∨ x 0 (y 34 0 + y 33 0 - 1) = 3 ∨ x 0 (y 34 0 + y 33 0 - 1) = 51 ∨ x 0 (y 34 0 + y 33 0 - 1) = 35 ∨ x 0 (y 34 0 + y 33 0 - 1) = 19))) → W p l e (rmK 1) s m ([.ref (q 20)] : List Value).toArray below meth cd H locs 0 0 Q (F0 m 51 ls [.int (iI v51)]) := by
      intro v51 hv51
      refine lv_istore_n (lv' := [(2, .int (iI (v51))), (1, .int (iI ((x 0) (y 34 0 + y 33 0 - 1)))), (0, .ref (q 20))]) hx hb d_MO_branchMark_51 rfl hl (by decide) rfl (fun ls hl => ?_)
      have J103 : ∀ v103 : Int, ((v103 = 1 ∧ (x 0 (y 34 0 + y 33 0 - 1) = 2 ∨ x 0 (y 34 0 + y 33 0 - 1) = 50 ∨ x 0 (y 34 0 + y 33 0 - 1) = 34 ∨ x 0 (y 34 0 + y 33 0 - 1) = 18 ∨ x 0 (y 34 0 + y 33 0 - 1) = 3 ∨ x 0 (y 34 0 + y 33 0 - 1) = 51 ∨ x 0 (y 34 0 + y 33 0 - 1) = 35 ∨ x 0 (y 34 0 + y 33 0 - 1) = 19)) ∨ (v103 = 0 ∧ ¬ (x 0 (y 34 0 + y 33 0 - 1) = 2 ∨ x 0 (y 34 0 + y 33 0 - 1) = 50 ∨ x 0 (y 34 0 + y 33 0 - 1) = 34 ∨ x 0 (y 34 0 + y 33 0 - 1) = 18 ∨ x 0 (y 34 0 + y 33 0 - 1) = 3 ∨ x 0 (y 34 0 + y 33 0 - 1) = 51 ∨ x 0 (y 34 0 + y 33 0 - 1) = 35 ∨ x 0 (y 34 0 + y 33 0 - 1) = 19))) → W p l e (rmK 1) s m ([.ref (q 20)] : List Value).toArray below meth cd H locs 0 0 Q (F0 m 103 ls [.int (iI v103)]) := by
        intro v103 hv103
        refine lv_istore_n (lv' := [(3, .int (iI (v103))), (2, .int (iI (v51))), (1, .int (iI ((x 0) (y 34 0 + y 33 0 - 1)))), (0, .ref (q 20))]) hx hb d_MO_branchMark_103 rfl hl (by decide) rfl (fun ls hl => ?_)
        have J148 : ∀ (v148 : Int) (H : Heap) (locs : List Loc), ((v148 = 1 ∧ ((v51 = 1 ∧ x 1 (x 13 0) = 1) ∨ (v103 = 1 ∧ zn (x 0 (x 13 0)) = zn (x 0 (y 34 0 + y 33 0 - 1))))) ∨ (v148 = 0 ∧ ¬ ((v51 = 1 ∧ x 1 (x 13 0) = 1) ∨ (v103 = 1 ∧ zn (x 0 (x 13 0)) = zn (x 0 (y 34 0 + y 33 0 - 1)))))) → va_P D vwCl (moW T q n (x 0) (x 1) (mkF (x 2) (x 18 0)) (cdF (x 2) (x 18 0)) (x 3) (x 4) (x 11 0) (x 12 0) (x 13 0) (x 14 0) (x 15 0) (x 16 0) (x 17 0) (x 18 0) (x 19 0) (x 20 0) (x 21 0) (x 22 0) (y 31 0) (y 32 0) (y 33 0) (y 34 0) (y 35 0) (y 36 0) (y 37) (y 38) (y 39)) H → va_D A (moW T q n (x 0) (x 1) (mkF (x 2) (x 18 0)) (cdF (x 2) (x 18 0)) (x 3) (x 4) (x 11 0) (x 12 0) (x 13 0) (x 14 0) (x 15 0) (x 16 0) (x 17 0) (x 18 0) (x 19 0) (x 20 0) (x 21 0) (x 22 0) (y 31 0) (y 32 0) (y 33 0) (y 34 0) (y 35 0) (y 36 0) (y 37) (y 38) (y 39)) → va_S A s.heap H locs → W p l e (rmK 1) s m ([.ref (q 20)] : List Value).toArray below meth cd H locs 0 0 Q (F0 m 148 ls [.int (iI v148)]) := by
          intro v148 H locs hv148 hP hD hS
          refine lv_istore (lv' := [(4, .int (iI (v148))), (3, .int (iI (v103))), (2, .int (iI (v51))), (1, .int (iI ((x 0) (y 34 0 + y 33 0 - 1)))), (0, .ref (q 20))]) hx hb d_MO_branchMark_148 hl (by decide) rfl (fun ls hl => ?_)
          refine lv_aload_n hx hb d_MO_branchMark_150 rfl (lv_at hl 4 rfl) ?_
          refine lv_dup hx hb d_MO_branchMark_151 rfl ?_
          refine va_get (D := D) (ci := 5) (v := .int (iI (x 13 0))) (C := R_MO) (T := T_MO) (N := 28) hx hb hT lays_MO hown hK hP 0 rfl rfl 6 (by decide) (hT _ tw_642) (fun _ h9 => h9) rfl d_MO_branchMark_152 ?_
          refine cx_iconst hx hb d_MO_branchMark_155 ?_
          refine cx_isub hx hb d_MO_branchMark_156 ?_
          refine va_put (D := D) (ci := 5) (v := .int (iI ((x 13 0) - 1))) (ty := .int) (C := R_MO) (T := T_MO) (N := 28) hx hb hT lays_MO t_MO t_MO_ok n_MO hown hK hP hD hS 0 rfl rfl 6 (by decide) (hT _ tw_642) (fun _ h9 => h9) rfl (by decide +kernel) rfl rfl (Nat.le_of_ble_eq_true rfl) d_MO_branchMark_157 (fun H locs hP hD hS => ?_)
          have hP : va_P D vwCl (moW T q n (x 0) (x 1) (mkF (x 2) (x 18 0)) (cdF (x 2) (x 18 0)) (x 3) (x 4) (x 11 0) (x 12 0) ((x 13 0) - 1) (x 14 0) (x 15 0) (x 16 0) (x 17 0) (x 18 0) (x 19 0) (x 20 0) (x 21 0) (x 22 0) (y 31 0) (y 32 0) (y 33 0) (y 34 0) (y 35 0) (y 36 0) (y 37) (y 38) (y 39)) H := hP
          have hD : va_D A (moW T q n (x 0) (x 1) (mkF (x 2) (x 18 0)) (cdF (x 2) (x 18 0)) (x 3) (x 4) (x 11 0) (x 12 0) ((x 13 0) - 1) (x 14 0) (x 15 0) (x 16 0) (x 17 0) (x 18 0) (x 19 0) (x 20 0) (x 21 0) (x 22 0) (y 31 0) (y 32 0) (y 33 0) (y 34 0) (y 35 0) (y 36 0) (y 37) (y 38) (y 39)) := hD
          refine lv_iload hx hb d_MO_branchMark_160 (lv_at hl 0 rfl) ?_
          refine cx_if_eq (tgt := 169) hx hb d_MO_branchMark_162 rfl (by omega) (fun h162 => ?_) (fun h162 => ?_)
          · refine cx_iconst hx hb d_MO_branchMark_169 ?_
            exact hret ((up x 13 (cst ((x 13 0) - 1)), y) : SX × SX) (⟨pst_of (by unfold bpsS gof; rw [if_pos (by omega), show x 0 (x 11 0 - 1) = x 0 (y 34 0 + y 33 0 - 1) from congrArg (x 0) (by omega), asd_G hmB, if_neg (show ¬ ((x 0 (y 34 0 + y 33 0 - 1) = 1 ∨ x 0 (y 34 0 + y 33 0 - 1) = 3 ∨ x 0 (y 34 0 + y 33 0 - 1) = 51 ∨ x 0 (y 34 0 + y 33 0 - 1) = 35 ∨ x 0 (y 34 0 + y 33 0 - 1) = 19) ∧ x 1 (x 13 0) = 1 ∨ (x 0 (y 34 0 + y 33 0 - 1) = 2 ∨ x 0 (y 34 0 + y 33 0 - 1) = 50 ∨ x 0 (y 34 0 + y 33 0 - 1) = 34 ∨ x 0 (y 34 0 + y 33 0 - 1) = 18 ∨ x 0 (y 34 0 + y 33 0 - 1) = 3 ∨ x 0 (y 34 0 + y 33 0 - 1) = 51 ∨ x 0 (y 34 0 + y 33 0 - 1) = 35 ∨ x 0 (y 34 0 + y 33 0 - 1) = 19) ∧ zn (x 0 (x 13 0)) = zn (x 0 (y 34 0 + y 33 0 - 1))) by omega), if_pos rfl]) (show okX (up x 13 (cst ((x 13 0) - 1))) from ⟨hX.1, (show okR (x 11 0) (x 12 0) ((x 13 0) - 1) (x 14 0) (x 15 0) (x 16 0) (x 17 0) (x 18 0) (x 19 0) (x 20 0) by have h8 := hX.2.1; unfold okR at h8 ⊢; omega), hX.2.2⟩), ⟨rfl, rfl⟩⟩) hP hD hS d_MO_branchMark_170
          · refine lv_aload_n hx hb d_MO_branchMark_165 rfl (lv_at hl 4 rfl) ?_
            refine cx_cV (ws2 := fun _ => moW T q n ((goS (up x 13 (cst ((x 13 0) - 1)))) 0) ((goS (up x 13 (cst ((x 13 0) - 1)))) 1) (mkF ((goS (up x 13 (cst ((x 13 0) - 1)))) 2) ((goS (up x 13 (cst ((x 13 0) - 1)))) 18 0)) (cdF ((goS (up x 13 (cst ((x 13 0) - 1)))) 2) ((goS (up x 13 (cst ((x 13 0) - 1)))) 18 0)) ((goS (up x 13 (cst ((x 13 0) - 1)))) 3) ((goS (up x 13 (cst ((x 13 0) - 1)))) 4) ((goS (up x 13 (cst ((x 13 0) - 1)))) 11 0) ((goS (up x 13 (cst ((x 13 0) - 1)))) 12 0) ((goS (up x 13 (cst ((x 13 0) - 1)))) 13 0) ((goS (up x 13 (cst ((x 13 0) - 1)))) 14 0) ((goS (up x 13 (cst ((x 13 0) - 1)))) 15 0) ((goS (up x 13 (cst ((x 13 0) - 1)))) 16 0) ((goS (up x 13 (cst ((x 13 0) - 1)))) 17 0) ((goS (up x 13 (cst ((x 13 0) - 1)))) 18 0) ((goS (up x 13 (cst ((x 13 0) - 1)))) 19 0) ((goS (up x 13 (cst ((x 13 0) - 1)))) 20 0) ((goS (up x 13 (cst ((x 13 0) - 1)))) 21 0) ((goS (up x 13 (cst ((x 13 0) - 1)))) 22 0) (y 31 0) (y 32 0) (y 33 0) (y 34 0) (y 35 0) (y 36 0) (y 37) (y 38) (y 39)) (cx_rV (q0 := 0) (ci := 5) (rest := []) (As := []) hx hb hml hown hT hK hN hP hD hl.1 tw_846 k_MO_go (c_MO_go l D T H.size q n hn (up x 13 (cst ((x 13 0) - 1))) y (show okX (up x 13 (cst ((x 13 0) - 1))) from ⟨hX.1, (show okR (x 11 0) (x 12 0) ((x 13 0) - 1) (x 14 0) (x 15 0) (x 16 0) (x 17 0) (x 18 0) (x 19 0) (x 20 0) by have h8 := hX.2.1; unfold okR at h8 ⊢; omega), hX.2.2⟩)) ⟨by decide, by decide⟩ ⟨rfl, rfl⟩ [0, 1, 2, 3, 4, 5, 6, 7, 8, 9] (by decide) rfl rfl rfl rfl rfl (Nat.le_of_ble_eq_true rfl) ⟨Nat.zero_le _, Nat.zero_le _⟩ d_MO_branchMark_166) hP hD hS hA [0, 1, 2, 3, 4, 5, 6, 7, 8, 9] [] [0, 1, 2, 3, 4, 5, 6, 7, 8, 9] rfl (wr := []) rfl (by decide) (by decide) (fun _ => rfl) (by decide) (fun u_ H locs hq166 hP hD hS => ?_)
            refine cx_iconst hx hb d_MO_branchMark_169 ?_
            exact hret (((goS (up x 13 (cst ((x 13 0) - 1)))), y) : SX × SX) (⟨pst_of (by unfold bpsS gof; rw [if_pos (by omega), show x 0 (x 11 0 - 1) = x 0 (y 34 0 + y 33 0 - 1) from congrArg (x 0) (by omega), asd_G hmB, if_pos (show (x 0 (y 34 0 + y 33 0 - 1) = 1 ∨ x 0 (y 34 0 + y 33 0 - 1) = 3 ∨ x 0 (y 34 0 + y 33 0 - 1) = 51 ∨ x 0 (y 34 0 + y 33 0 - 1) = 35 ∨ x 0 (y 34 0 + y 33 0 - 1) = 19) ∧ x 1 (x 13 0) = 1 ∨ (x 0 (y 34 0 + y 33 0 - 1) = 2 ∨ x 0 (y 34 0 + y 33 0 - 1) = 50 ∨ x 0 (y 34 0 + y 33 0 - 1) = 34 ∨ x 0 (y 34 0 + y 33 0 - 1) = 18 ∨ x 0 (y 34 0 + y 33 0 - 1) = 3 ∨ x 0 (y 34 0 + y 33 0 - 1) = 51 ∨ x 0 (y 34 0 + y 33 0 - 1) = 35 ∨ x 0 (y 34 0 + y 33 0 - 1) = 19) ∧ zn (x 0 (x 13 0)) = zn (x 0 (y 34 0 + y 33 0 - 1)) by omega), if_neg (by decide)]) (goS_ok (show okX (up x 13 (cst ((x 13 0) - 1))) from ⟨hX.1, (show okR (x 11 0) (x 12 0) ((x 13 0) - 1) (x 14 0) (x 15 0) (x 16 0) (x 17 0) (x 18 0) (x 19 0) (x 20 0) by have h8 := hX.2.1; unfold okR at h8 ⊢; omega), hX.2.2⟩)), ⟨rfl, rfl⟩⟩) hP hD hS d_MO_branchMark_170
        refine lv_iload_n hx hb d_MO_branchMark_104 rfl (lv_at hl 1 rfl) ?_
        refine cx_if_eq (tgt := 120) hx hb d_MO_branchMark_105 rfl (by omega) (fun h105 => ?_) (fun h105 => ?_)
        · refine lv_iload_n hx hb d_MO_branchMark_120 rfl (lv_at hl 0 rfl) ?_
          refine cx_if_eq (tgt := 147) hx hb d_MO_branchMark_121 rfl (by omega) (fun h121 => ?_) (fun h121 => ?_)
          · refine cx_iconst hx hb d_MO_branchMark_147 ?_
            exact J148 0 _ _ (by omega) hP hD hS
          · refine lv_aload_n hx hb d_MO_branchMark_124 rfl (lv_at hl 3 rfl) ?_
            refine va_get (D := D) (ci := 5) (v := .ref (q 21)) (C := R_MO) (T := T_MO) (N := 28) hx hb hT lays_MO hown hK hP 0 rfl rfl 2 (by decide) (hT _ tw_638) (fun _ h9 => h9) rfl d_MO_branchMark_125 ?_
            refine lv_aload_n hx hb d_MO_branchMark_128 rfl (lv_at hl 3 rfl) ?_
            refine va_get (D := D) (ci := 5) (v := .int (iI (x 13 0))) (C := R_MO) (T := T_MO) (N := 28) hx hb hT lays_MO hown hK hP 0 rfl rfl 6 (by decide) (hT _ tw_642) (fun _ h9 => h9) rfl d_MO_branchMark_129 ?_
            refine cx_bald (g := iF (x 0)) hx hb hK hP 1 1 rfl rfl (by omega) (by omega) d_MO_branchMark_132 ?_
            have hc132 := hC.1 (x 13 0)
            refine cx_cI (ws2 := fun _ => moW T q n (x 0) (x 1) (mkF (x 2) (x 18 0)) (cdF (x 2) (x 18 0)) (x 3) (x 4) (x 11 0) (x 12 0) (x 13 0) (x 14 0) (x 15 0) (x 16 0) (x 17 0) (x 18 0) (x 19 0) (x 20 0) (x 21 0) (x 22 0) (y 31 0) (y 32 0) (y 33 0) (y 34 0) (y 35 0) (y 36 0) (y 37) (y 38) (y 39)) (cx_rS (rest := []) (As := [.int (iI ((x 0) (x 13 0)))]) hx hb hml hown hT hK hN hP hD hl.1 tw_793 k_MO_zone (c_MO_zone l D T H.size ((x 0) (x 13 0)) (by omega)) ⟨by decide, by decide⟩ ⟨rfl, rfl⟩ [] (by decide) rfl rfl rfl (Nat.le_of_ble_eq_true rfl) ⟨Nat.zero_le _, Nat.zero_le _⟩ d_MO_branchMark_133) hP hD hS hA [] [0, 1, 2, 3, 4, 5, 6, 7, 8, 9] [0, 1, 2, 3, 4, 5, 6, 7, 8, 9] rfl (wr := [(q 20, .inr (5, [.int (iI (y 31 0)), .int (iI ((n : Int))), .ref (q 21), .ref (q 22), .int (iI (x 11 0)), .int (iI (x 12 0)), .int (iI (x 13 0)), .int (iI (x 14 0)), .int (iI (x 15 0)), .int (iI (x 16 0)), .int (iI (x 21 0)), .int (iI (x 22 0)), .int (iI (y 32 0)), .int (iI (y 33 0)), .int (iI (y 34 0)), .int (iI (y 35 0)), .int (iI (y 36 0)), .ref (q 23), .int (iI (x 18 0)), .int (iI (x 17 0)), .ref (q 24), .int (iI (x 19 0)), .ref (q 25), .int (iI (x 20 0)), .ref (q 26), .ref (q 27), .ref (q 28), .ref (q 29)])), (q 21, .inl (T 1, 2000, .inl (fun jj : Nat => (iF (x 0)) (jj : Int)))), (q 22, .inl (T 2, 2000, .inl (fun jj : Nat => (iF (x 1)) (jj : Int)))), (q 23, .inl (T 1, 80, .inl (fun jj : Nat => (iF (mkF (x 2) (x 18 0))) (jj : Int)))), (q 24, .inl (T 1, 1600, .inl (fun jj : Nat => (iF (cdF (x 2) (x 18 0))) (jj : Int)))), (q 25, .inl (T 1, 5280, .inl (fun jj : Nat => (iF (x 3)) (jj : Int)))), (q 26, .inl (T 1, 1600, .inl (fun jj : Nat => (iF (x 4)) (jj : Int)))), (q 27, .inl (T 0, 2000, .inl (fun jj : Nat => (iF (y 37)) (jj : Int)))), (q 28, .inl (T 0, 2000, .inl (fun jj : Nat => (iF (y 38)) (jj : Int)))), (q 29, .inl (T 1, 2000, .inl (fun jj : Nat => (iF (y 39)) (jj : Int))))]) rfl (by decide) (by decide) (fun _ => rfl) (by decide) (fun r u_ H locs hq133 hP hD hS => ?_)
            subst hq133
            refine lv_iload_n hx hb d_MO_branchMark_136 rfl (lv_at hl 2 rfl) ?_
            refine cx_cI (ws2 := fun _ => moW T q n (x 0) (x 1) (mkF (x 2) (x 18 0)) (cdF (x 2) (x 18 0)) (x 3) (x 4) (x 11 0) (x 12 0) (x 13 0) (x 14 0) (x 15 0) (x 16 0) (x 17 0) (x 18 0) (x 19 0) (x 20 0) (x 21 0) (x 22 0) (y 31 0) (y 32 0) (y 33 0) (y 34 0) (y 35 0) (y 36 0) (y 37) (y 38) (y 39)) (cx_rS (rest := [.int (iI (zn ((x 0) (x 13 0))))]) (As := [.int (iI ((x 0) (y 34 0 + y 33 0 - 1)))]) hx hb hml hown hT hK hN hP hD hl.1 tw_793 k_MO_zone (c_MO_zone l D T H.size ((x 0) (y 34 0 + y 33 0 - 1)) (by omega)) ⟨by decide, by decide⟩ ⟨rfl, rfl⟩ [] (by decide) rfl rfl rfl (Nat.le_of_ble_eq_true rfl) ⟨Nat.zero_le _, Nat.zero_le _⟩ d_MO_branchMark_137) hP hD hS hA [] [0, 1, 2, 3, 4, 5, 6, 7, 8, 9] [0, 1, 2, 3, 4, 5, 6, 7, 8, 9] rfl (wr := [(q 20, .inr (5, [.int (iI (y 31 0)), .int (iI ((n : Int))), .ref (q 21), .ref (q 22), .int (iI (x 11 0)), .int (iI (x 12 0)), .int (iI (x 13 0)), .int (iI (x 14 0)), .int (iI (x 15 0)), .int (iI (x 16 0)), .int (iI (x 21 0)), .int (iI (x 22 0)), .int (iI (y 32 0)), .int (iI (y 33 0)), .int (iI (y 34 0)), .int (iI (y 35 0)), .int (iI (y 36 0)), .ref (q 23), .int (iI (x 18 0)), .int (iI (x 17 0)), .ref (q 24), .int (iI (x 19 0)), .ref (q 25), .int (iI (x 20 0)), .ref (q 26), .ref (q 27), .ref (q 28), .ref (q 29)])), (q 21, .inl (T 1, 2000, .inl (fun jj : Nat => (iF (x 0)) (jj : Int)))), (q 22, .inl (T 2, 2000, .inl (fun jj : Nat => (iF (x 1)) (jj : Int)))), (q 23, .inl (T 1, 80, .inl (fun jj : Nat => (iF (mkF (x 2) (x 18 0))) (jj : Int)))), (q 24, .inl (T 1, 1600, .inl (fun jj : Nat => (iF (cdF (x 2) (x 18 0))) (jj : Int)))), (q 25, .inl (T 1, 5280, .inl (fun jj : Nat => (iF (x 3)) (jj : Int)))), (q 26, .inl (T 1, 1600, .inl (fun jj : Nat => (iF (x 4)) (jj : Int)))), (q 27, .inl (T 0, 2000, .inl (fun jj : Nat => (iF (y 37)) (jj : Int)))), (q 28, .inl (T 0, 2000, .inl (fun jj : Nat => (iF (y 38)) (jj : Int)))), (q 29, .inl (T 1, 2000, .inl (fun jj : Nat => (iF (y 39)) (jj : Int))))]) rfl (by decide) (by decide) (fun _ => rfl) (by decide) (fun r u_ H locs hq137 hP hD hS => ?_)
            subst hq137
            refine cx_icmp_ne (tgt := 147) hx hb d_MO_branchMark_140 rfl (by omega) (by omega) (fun h140 => ?_) (fun h140 => ?_)
            · refine cx_iconst hx hb d_MO_branchMark_147 ?_
              exact J148 0 _ _ (by omega) hP hD hS
            · refine cx_iconst hx hb d_MO_branchMark_143 ?_
              refine lv_goto (tgt := 148) hx hb d_MO_branchMark_144 rfl ?_
              exact J148 1 _ _ (by omega) hP hD hS
        · refine lv_aload_n hx hb d_MO_branchMark_108 rfl (lv_at hl 3 rfl) ?_
          refine va_get (D := D) (ci := 5) (v := .ref (q 22)) (C := R_MO) (T := T_MO) (N := 28) hx hb hT lays_MO hown hK hP 0 rfl rfl 3 (by decide) (hT _ tw_639) (fun _ h9 => h9) rfl d_MO_branchMark_109 ?_
          refine lv_aload_n hx hb d_MO_branchMark_112 rfl (lv_at hl 3 rfl) ?_
          refine va_get (D := D) (ci := 5) (v := .int (iI (x 13 0))) (C := R_MO) (T := T_MO) (N := 28) hx hb hT lays_MO hown hK hP 0 rfl rfl 6 (by decide) (hT _ tw_642) (fun _ h9 => h9) rfl d_MO_branchMark_113 ?_
          refine cx_zald (g := iF (x 1)) hx hb hK hP 2 2 rfl rfl (by omega) (by omega) d_MO_branchMark_116 ?_
          have hm116 := hC.2 (x 13 0)
          refine cx_if_ne (tgt := 143) hx hb d_MO_branchMark_117 rfl (by omega) (fun h117 => ?_) (fun h117 => ?_)
          · refine cx_iconst hx hb d_MO_branchMark_143 ?_
            refine lv_goto (tgt := 148) hx hb d_MO_branchMark_144 rfl ?_
            exact J148 1 _ _ (by omega) hP hD hS
          · refine lv_iload_n hx hb d_MO_branchMark_120 rfl (lv_at hl 0 rfl) ?_
            refine cx_if_eq (tgt := 147) hx hb d_MO_branchMark_121 rfl (by omega) (fun h121 => ?_) (fun h121 => ?_)
            · refine cx_iconst hx hb d_MO_branchMark_147 ?_
              exact J148 0 _ _ (by omega) hP hD hS
            · refine lv_aload_n hx hb d_MO_branchMark_124 rfl (lv_at hl 3 rfl) ?_
              refine va_get (D := D) (ci := 5) (v := .ref (q 21)) (C := R_MO) (T := T_MO) (N := 28) hx hb hT lays_MO hown hK hP 0 rfl rfl 2 (by decide) (hT _ tw_638) (fun _ h9 => h9) rfl d_MO_branchMark_125 ?_
              refine lv_aload_n hx hb d_MO_branchMark_128 rfl (lv_at hl 3 rfl) ?_
              refine va_get (D := D) (ci := 5) (v := .int (iI (x 13 0))) (C := R_MO) (T := T_MO) (N := 28) hx hb hT lays_MO hown hK hP 0 rfl rfl 6 (by decide) (hT _ tw_642) (fun _ h9 => h9) rfl d_MO_branchMark_129 ?_
              refine cx_bald (g := iF (x 0)) hx hb hK hP 1 1 rfl rfl (by omega) (by omega) d_MO_branchMark_132 ?_
              have hc132 := hC.1 (x 13 0)
              refine cx_cI (ws2 := fun _ => moW T q n (x 0) (x 1) (mkF (x 2) (x 18 0)) (cdF (x 2) (x 18 0)) (x 3) (x 4) (x 11 0) (x 12 0) (x 13 0) (x 14 0) (x 15 0) (x 16 0) (x 17 0) (x 18 0) (x 19 0) (x 20 0) (x 21 0) (x 22 0) (y 31 0) (y 32 0) (y 33 0) (y 34 0) (y 35 0) (y 36 0) (y 37) (y 38) (y 39)) (cx_rS (rest := []) (As := [.int (iI ((x 0) (x 13 0)))]) hx hb hml hown hT hK hN hP hD hl.1 tw_793 k_MO_zone (c_MO_zone l D T H.size ((x 0) (x 13 0)) (by omega)) ⟨by decide, by decide⟩ ⟨rfl, rfl⟩ [] (by decide) rfl rfl rfl (Nat.le_of_ble_eq_true rfl) ⟨Nat.zero_le _, Nat.zero_le _⟩ d_MO_branchMark_133) hP hD hS hA [] [0, 1, 2, 3, 4, 5, 6, 7, 8, 9] [0, 1, 2, 3, 4, 5, 6, 7, 8, 9] rfl (wr := [(q 20, .inr (5, [.int (iI (y 31 0)), .int (iI ((n : Int))), .ref (q 21), .ref (q 22), .int (iI (x 11 0)), .int (iI (x 12 0)), .int (iI (x 13 0)), .int (iI (x 14 0)), .int (iI (x 15 0)), .int (iI (x 16 0)), .int (iI (x 21 0)), .int (iI (x 22 0)), .int (iI (y 32 0)), .int (iI (y 33 0)), .int (iI (y 34 0)), .int (iI (y 35 0)), .int (iI (y 36 0)), .ref (q 23), .int (iI (x 18 0)), .int (iI (x 17 0)), .ref (q 24), .int (iI (x 19 0)), .ref (q 25), .int (iI (x 20 0)), .ref (q 26), .ref (q 27), .ref (q 28), .ref (q 29)])), (q 21, .inl (T 1, 2000, .inl (fun jj : Nat => (iF (x 0)) (jj : Int)))), (q 22, .inl (T 2, 2000, .inl (fun jj : Nat => (iF (x 1)) (jj : Int)))), (q 23, .inl (T 1, 80, .inl (fun jj : Nat => (iF (mkF (x 2) (x 18 0))) (jj : Int)))), (q 24, .inl (T 1, 1600, .inl (fun jj : Nat => (iF (cdF (x 2) (x 18 0))) (jj : Int)))), (q 25, .inl (T 1, 5280, .inl (fun jj : Nat => (iF (x 3)) (jj : Int)))), (q 26, .inl (T 1, 1600, .inl (fun jj : Nat => (iF (x 4)) (jj : Int)))), (q 27, .inl (T 0, 2000, .inl (fun jj : Nat => (iF (y 37)) (jj : Int)))), (q 28, .inl (T 0, 2000, .inl (fun jj : Nat => (iF (y 38)) (jj : Int)))), (q 29, .inl (T 1, 2000, .inl (fun jj : Nat => (iF (y 39)) (jj : Int))))]) rfl (by decide) (by decide) (fun _ => rfl) (by decide) (fun r u_ H locs hq133 hP hD hS => ?_)
              subst hq133
              refine lv_iload_n hx hb d_MO_branchMark_136 rfl (lv_at hl 2 rfl) ?_
              refine cx_cI (ws2 := fun _ => moW T q n (x 0) (x 1) (mkF (x 2) (x 18 0)) (cdF (x 2) (x 18 0)) (x 3) (x 4) (x 11 0) (x 12 0) (x 13 0) (x 14 0) (x 15 0) (x 16 0) (x 17 0) (x 18 0) (x 19 0) (x 20 0) (x 21 0) (x 22 0) (y 31 0) (y 32 0) (y 33 0) (y 34 0) (y 35 0) (y 36 0) (y 37) (y 38) (y 39)) (cx_rS (rest := [.int (iI (zn ((x 0) (x 13 0))))]) (As := [.int (iI ((x 0) (y 34 0 + y 33 0 - 1)))]) hx hb hml hown hT hK hN hP hD hl.1 tw_793 k_MO_zone (c_MO_zone l D T H.size ((x 0) (y 34 0 + y 33 0 - 1)) (by omega)) ⟨by decide, by decide⟩ ⟨rfl, rfl⟩ [] (by decide) rfl rfl rfl (Nat.le_of_ble_eq_true rfl) ⟨Nat.zero_le _, Nat.zero_le _⟩ d_MO_branchMark_137) hP hD hS hA [] [0, 1, 2, 3, 4, 5, 6, 7, 8, 9] [0, 1, 2, 3, 4, 5, 6, 7, 8, 9] rfl (wr := [(q 20, .inr (5, [.int (iI (y 31 0)), .int (iI ((n : Int))), .ref (q 21), .ref (q 22), .int (iI (x 11 0)), .int (iI (x 12 0)), .int (iI (x 13 0)), .int (iI (x 14 0)), .int (iI (x 15 0)), .int (iI (x 16 0)), .int (iI (x 21 0)), .int (iI (x 22 0)), .int (iI (y 32 0)), .int (iI (y 33 0)), .int (iI (y 34 0)), .int (iI (y 35 0)), .int (iI (y 36 0)), .ref (q 23), .int (iI (x 18 0)), .int (iI (x 17 0)), .ref (q 24), .int (iI (x 19 0)), .ref (q 25), .int (iI (x 20 0)), .ref (q 26), .ref (q 27), .ref (q 28), .ref (q 29)])), (q 21, .inl (T 1, 2000, .inl (fun jj : Nat => (iF (x 0)) (jj : Int)))), (q 22, .inl (T 2, 2000, .inl (fun jj : Nat => (iF (x 1)) (jj : Int)))), (q 23, .inl (T 1, 80, .inl (fun jj : Nat => (iF (mkF (x 2) (x 18 0))) (jj : Int)))), (q 24, .inl (T 1, 1600, .inl (fun jj : Nat => (iF (cdF (x 2) (x 18 0))) (jj : Int)))), (q 25, .inl (T 1, 5280, .inl (fun jj : Nat => (iF (x 3)) (jj : Int)))), (q 26, .inl (T 1, 1600, .inl (fun jj : Nat => (iF (x 4)) (jj : Int)))), (q 27, .inl (T 0, 2000, .inl (fun jj : Nat => (iF (y 37)) (jj : Int)))), (q 28, .inl (T 0, 2000, .inl (fun jj : Nat => (iF (y 38)) (jj : Int)))), (q 29, .inl (T 1, 2000, .inl (fun jj : Nat => (iF (y 39)) (jj : Int))))]) rfl (by decide) (by decide) (fun _ => rfl) (by decide) (fun r u_ H locs hq137 hP hD hS => ?_)
              subst hq137
              refine cx_icmp_ne (tgt := 147) hx hb d_MO_branchMark_140 rfl (by omega) (by omega) (fun h140 => ?_) (fun h140 => ?_)
              · refine cx_iconst hx hb d_MO_branchMark_147 ?_
                exact J148 0 _ _ (by omega) hP hD hS
              · refine cx_iconst hx hb d_MO_branchMark_143 ?_
                refine lv_goto (tgt := 148) hx hb d_MO_branchMark_144 rfl ?_
                exact J148 1 _ _ (by omega) hP hD hS
      refine lv_iload_n hx hb d_MO_branchMark_52 rfl (lv_at hl 1 rfl) ?_
      refine cx_iconst hx hb d_MO_branchMark_53 ?_
      refine cx_icmp_eq (tgt := 98) hx hb d_MO_branchMark_54 rfl (by omega) (by omega) (fun h54 => ?_) (fun h54 => ?_)
      · refine cx_iconst hx hb d_MO_branchMark_98 ?_
        refine lv_goto (tgt := 103) hx hb d_MO_branchMark_99 rfl ?_
        exact J103 1 (by omega)
      · refine lv_iload_n hx hb d_MO_branchMark_57 rfl (lv_at hl 1 rfl) ?_
        refine cx_bipush hx hb d_MO_branchMark_58 rfl ?_
        refine cx_icmp_eq (tgt := 98) hx hb d_MO_branchMark_60 rfl (by omega) (by omega) (fun h60 => ?_) (fun h60 => ?_)
        · refine cx_iconst hx hb d_MO_branchMark_98 ?_
          refine lv_goto (tgt := 103) hx hb d_MO_branchMark_99 rfl ?_
          exact J103 1 (by omega)
        · refine lv_iload_n hx hb d_MO_branchMark_63 rfl (lv_at hl 1 rfl) ?_
          refine cx_bipush hx hb d_MO_branchMark_64 rfl ?_
          refine cx_icmp_eq (tgt := 98) hx hb d_MO_branchMark_66 rfl (by omega) (by omega) (fun h66 => ?_) (fun h66 => ?_)
          · refine cx_iconst hx hb d_MO_branchMark_98 ?_
            refine lv_goto (tgt := 103) hx hb d_MO_branchMark_99 rfl ?_
            exact J103 1 (by omega)
          · refine lv_iload_n hx hb d_MO_branchMark_69 rfl (lv_at hl 1 rfl) ?_
            refine cx_bipush hx hb d_MO_branchMark_70 rfl ?_
            refine cx_icmp_eq (tgt := 98) hx hb d_MO_branchMark_72 rfl (by omega) (by omega) (fun h72 => ?_) (fun h72 => ?_)
            · refine cx_iconst hx hb d_MO_branchMark_98 ?_
              refine lv_goto (tgt := 103) hx hb d_MO_branchMark_99 rfl ?_
              exact J103 1 (by omega)
            · refine lv_iload_n hx hb d_MO_branchMark_75 rfl (lv_at hl 1 rfl) ?_
              refine cx_iconst hx hb d_MO_branchMark_76 ?_
              refine cx_icmp_eq (tgt := 98) hx hb d_MO_branchMark_77 rfl (by omega) (by omega) (fun h77 => ?_) (fun h77 => ?_)
              · refine cx_iconst hx hb d_MO_branchMark_98 ?_
                refine lv_goto (tgt := 103) hx hb d_MO_branchMark_99 rfl ?_
                exact J103 1 (by omega)
              · refine lv_iload_n hx hb d_MO_branchMark_80 rfl (lv_at hl 1 rfl) ?_
                refine cx_bipush hx hb d_MO_branchMark_81 rfl ?_
                refine cx_icmp_eq (tgt := 98) hx hb d_MO_branchMark_83 rfl (by omega) (by omega) (fun h83 => ?_) (fun h83 => ?_)
                · refine cx_iconst hx hb d_MO_branchMark_98 ?_
                  refine lv_goto (tgt := 103) hx hb d_MO_branchMark_99 rfl ?_
                  exact J103 1 (by omega)
                · refine lv_iload_n hx hb d_MO_branchMark_86 rfl (lv_at hl 1 rfl) ?_
                  refine cx_bipush hx hb d_MO_branchMark_87 rfl ?_
                  refine cx_icmp_eq (tgt := 98) hx hb d_MO_branchMark_89 rfl (by omega) (by omega) (fun h89 => ?_) (fun h89 => ?_)
                  · refine cx_iconst hx hb d_MO_branchMark_98 ?_
                    refine lv_goto (tgt := 103) hx hb d_MO_branchMark_99 rfl ?_
                    exact J103 1 (by omega)
                  · refine lv_iload_n hx hb d_MO_branchMark_92 rfl (lv_at hl 1 rfl) ?_
                    refine cx_bipush hx hb d_MO_branchMark_93 rfl ?_
                    refine cx_icmp_ne (tgt := 102) hx hb d_MO_branchMark_95 rfl (by omega) (by omega) (fun h95 => ?_) (fun h95 => ?_)
                    · refine cx_iconst hx hb d_MO_branchMark_102 ?_
                      exact J103 0 (by omega)
                    · refine cx_iconst hx hb d_MO_branchMark_98 ?_
                      refine lv_goto (tgt := 103) hx hb d_MO_branchMark_99 rfl ?_
                      exact J103 1 (by omega)
    refine lv_iload_n hx hb d_MO_branchMark_18 rfl (lv_at hl 0 rfl) ?_
    refine cx_iconst hx hb d_MO_branchMark_19 ?_
    refine cx_icmp_eq (tgt := 46) hx hb d_MO_branchMark_20 rfl (by omega) (by omega) (fun h20 => ?_) (fun h20 => ?_)
    · refine cx_iconst hx hb d_MO_branchMark_46 ?_
      refine lv_goto (tgt := 51) hx hb d_MO_branchMark_47 rfl ?_
      exact J51 1 (by omega)
    · refine lv_iload_n hx hb d_MO_branchMark_23 rfl (lv_at hl 0 rfl) ?_
      refine cx_iconst hx hb d_MO_branchMark_24 ?_
      refine cx_icmp_eq (tgt := 46) hx hb d_MO_branchMark_25 rfl (by omega) (by omega) (fun h25 => ?_) (fun h25 => ?_)
      · refine cx_iconst hx hb d_MO_branchMark_46 ?_
        refine lv_goto (tgt := 51) hx hb d_MO_branchMark_47 rfl ?_
        exact J51 1 (by omega)
      · refine lv_iload_n hx hb d_MO_branchMark_28 rfl (lv_at hl 0 rfl) ?_
        refine cx_bipush hx hb d_MO_branchMark_29 rfl ?_
        refine cx_icmp_eq (tgt := 46) hx hb d_MO_branchMark_31 rfl (by omega) (by omega) (fun h31 => ?_) (fun h31 => ?_)
        · refine cx_iconst hx hb d_MO_branchMark_46 ?_
          refine lv_goto (tgt := 51) hx hb d_MO_branchMark_47 rfl ?_
          exact J51 1 (by omega)
        · refine lv_iload_n hx hb d_MO_branchMark_34 rfl (lv_at hl 0 rfl) ?_
          refine cx_bipush hx hb d_MO_branchMark_35 rfl ?_
          refine cx_icmp_eq (tgt := 46) hx hb d_MO_branchMark_37 rfl (by omega) (by omega) (fun h37 => ?_) (fun h37 => ?_)
          · refine cx_iconst hx hb d_MO_branchMark_46 ?_
            refine lv_goto (tgt := 51) hx hb d_MO_branchMark_47 rfl ?_
            exact J51 1 (by omega)
          · refine lv_iload_n hx hb d_MO_branchMark_40 rfl (lv_at hl 0 rfl) ?_
            refine cx_bipush hx hb d_MO_branchMark_41 rfl ?_
            refine cx_icmp_ne (tgt := 50) hx hb d_MO_branchMark_43 rfl (by omega) (by omega) (fun h43 => ?_) (fun h43 => ?_)
            · refine cx_iconst hx hb d_MO_branchMark_50 ?_
              exact J51 0 (by omega)
            · refine cx_iconst hx hb d_MO_branchMark_46 ?_
              refine lv_goto (tgt := 51) hx hb d_MO_branchMark_47 rfl ?_
              exact J51 1 (by omega)
  · refine cx_if_ne (tgt := 13) hx hb d_MO_branchMark_8 rfl (by omega) (fun h0 => absurd h0 (by decide)) (fun _ => ?_)
    refine cx_iconst hx hb d_MO_branchMark_11 ?_
    exact hret ((x, y) : SX × SX) (⟨pst_of (by unfold bpsS; rw [if_neg (by omega)]) hX, ⟨rfl, rfl⟩⟩) hP hD hS d_MO_branchMark_12

set_option maxHeartbeats 4000000 in
set_option maxRecDepth 100000 in
theorem c_MO_stopHere (l : Launch) (D : va_G) (T : Nat → ClassId) (sz : Nat) (q : Nat → Nat) (n : Nat) (hn : 400 ≤ n ∧ n ≤ 2000) (x y : SX) (hX : okX x) (hY : (0 ≤ y 32 0 ∧ y 32 0 < 64) ∧ (1 ≤ y 33 0 ∧ y 33 0 ≤ 8)) : MI l y_MO_stopHere (wY y_MO_stopHere b_MO_stopHere 1 (some .int)) (rmK 1) D vwCl (tyL T) nwL sz [.ref (q 20)] (moW T q n (x 0) (x 1) (mkF (x 2) (x 18 0)) (cdF (x 2) (x 18 0)) (x 3) (x 4) (x 11 0) (x 12 0) (x 13 0) (x 14 0) (x 15 0) (x 16 0) (x 17 0) (x 18 0) (x 19 0) (x 20 0) (x 21 0) (x 22 0) (y 31 0) (y 32 0) (y 33 0) (y 34 0) (y 35 0) (y 36 0) (y 37) (y 38) (y 39)) (fun r (u : SX × SX) => pst ((6, gof (if y 33 0 = 4 then 1 else 0) x)) r u.1 ∧ (u.2 31 = y 31 ∧ u.2 33 = y 33)) (fun (u : SX × SX) => moX T q n u.1 u.2) := by
  refine cx_inI (by decide) rfl (Nat.le_of_ble_eq_true rfl) ?_
  intro p e s m below meth cd ls A Q hx hb hml hT hown hret hP hK hD hN hS hA hl
  have hown : s.vm.findClass R_MO = some m.cls := hown
  have hl : lv_has ls 1 [(0, .ref (q 20))] := hl
  have hC := hX.1
  have hR0 := hX.2.1
  have hF := hX.2.2
  unfold okR at hR0
  refine lv_aload_n hx hb d_MO_stopHere_0 rfl (lv_at hl 0 rfl) ?_
  refine va_get (D := D) (ci := 5) (v := .int (iI (y 33 0))) (C := R_MO) (T := T_MO) (N := 28) hx hb hT lays_MO hown hK hP 0 rfl rfl 13 (by decide) (hT _ tw_649) (fun _ h9 => h9) rfl d_MO_stopHere_1 ?_
  refine cx_iconst hx hb d_MO_stopHere_4 ?_
  refine cx_icmp_ne (tgt := 12) hx hb d_MO_stopHere_5 rfl (by omega) (by omega) (fun h5 => ?_) (fun h5 => ?_)
  · refine cx_bipush hx hb d_MO_stopHere_12 rfl ?_
    exact hret ((x, y) : SX × SX) (⟨pst_of (by unfold gof; rw [if_neg h5, if_pos rfl]) hX, ⟨rfl, rfl⟩⟩) hP hD hS d_MO_stopHere_14
  · refine lv_aload_n hx hb d_MO_stopHere_8 rfl (lv_at hl 0 rfl) ?_
    refine cx_cV (ws2 := fun _ => moW T q n ((goS x) 0) ((goS x) 1) (mkF ((goS x) 2) ((goS x) 18 0)) (cdF ((goS x) 2) ((goS x) 18 0)) ((goS x) 3) ((goS x) 4) ((goS x) 11 0) ((goS x) 12 0) ((goS x) 13 0) ((goS x) 14 0) ((goS x) 15 0) ((goS x) 16 0) ((goS x) 17 0) ((goS x) 18 0) ((goS x) 19 0) ((goS x) 20 0) ((goS x) 21 0) ((goS x) 22 0) (y 31 0) (y 32 0) (y 33 0) (y 34 0) (y 35 0) (y 36 0) (y 37) (y 38) (y 39)) (cx_rV (q0 := 0) (ci := 5) (rest := []) (As := []) hx hb hml hown hT hK hN hP hD hl.1 tw_846 k_MO_go (c_MO_go l D T s.heap.size q n hn x y hX) ⟨by decide, by decide⟩ ⟨rfl, rfl⟩ [0, 1, 2, 3, 4, 5, 6, 7, 8, 9] (by decide) rfl rfl rfl rfl rfl (Nat.le_of_ble_eq_true rfl) ⟨Nat.zero_le _, Nat.zero_le _⟩ d_MO_stopHere_9) hP hD hS hA [0, 1, 2, 3, 4, 5, 6, 7, 8, 9] [] [0, 1, 2, 3, 4, 5, 6, 7, 8, 9] rfl (wr := []) rfl (by decide) (by decide) (fun _ => rfl) (by decide) (fun u_ H locs hq9 hP hD hS => ?_)
    refine cx_bipush hx hb d_MO_stopHere_12 rfl ?_
    exact hret (((goS x), y) : SX × SX) (⟨pst_of (by unfold gof; rw [if_pos h5, if_neg (by decide)]) (goS_ok hX), ⟨rfl, rfl⟩⟩) hP hD hS d_MO_stopHere_14
