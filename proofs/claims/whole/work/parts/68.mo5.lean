/-! the reference: cards and rows with going, addresses, the fetch -/
theorem rdc_in (x : SX) : (rdcS 0 x).1 = 4 ∨ (rdcS 0 x).1 = 0 := by
  unfold rdcS
  split
  · exact Or.inl rfl
  · exact Or.inr rfl
theorem fil_in (f fl : Nat) (cap area wid : Int) (x : SX) : (filS f fl cap area wid 0 x).1 = 5 ∨ (filS f fl cap area wid 0 x).1 = 0 := by
  unfold filS
  split
  · exact Or.inl rfl
  · exact Or.inr rfl
theorem rdc_g {g : Int} {x : SX} : rdcS g x = if (rdcS 0 x).1 = 0 then (0, gof g (rdcS 0 x).2) else rdcS 0 x := by
  unfold rdcS
  by_cases h : x 18 0 - x 17 0 = 0
  · rw [if_pos h, if_pos h, if_neg (by decide)]
  · rw [if_neg h, if_neg h, if_pos rfl]; rfl
theorem fil_g {f fl : Nat} {cap area wid g : Int} {x : SX} : filS f fl cap area wid g x = if (filS f fl cap area wid 0 x).1 = 0 then (0, gof g (filS f fl cap area wid 0 x).2) else filS f fl cap area wid 0 x := by
  unfold filS
  by_cases h : cap ≤ x fl 0
  · rw [if_pos h, if_pos h, if_neg (by decide)]
  · rw [if_neg h, if_neg h, if_pos rfl]; rfl
def dvcS (o k : Int) (x : SX) : Int × SX := if o = 1 then rdcS (if k < 4 then 0 else 1) x else if o = 2 then filS 3 19 40 201 132 (if k < 4 then 0 else 1) x else filS 4 20 20 101 80 (if k < 4 then 0 else 1) x
theorem fin16 {x : Int} (h : 0 ≤ x ∧ x < 16) : ∃ k : Fin 16, x = (k.val : Int) := ⟨⟨x.toNat, by omega⟩, by show x = ((x.toNat : Nat) : Int); omega⟩
theorem qb_A : ∀ k : Fin 16, (iI (k.val : Int) &&& iI 1 = iI ((k.val : Int) % 2)) ∧ (iI (k.val : Int) >>> (iI 1 &&& 31) = iI ((k.val : Int) / 2)) ∧ (iI ((k.val : Int) / 2) &&& iI 1 = iI ((k.val : Int) / 2 % 2)) ∧ (iI (k.val : Int) >>> (iI 2 &&& 31) = iI ((k.val : Int) / 4)) ∧ (iI ((k.val : Int) / 4) &&& iI 1 = iI ((k.val : Int) / 4 % 2)) ∧ (iI (k.val : Int) >>> (iI 3 &&& 31) = iI ((k.val : Int) / 8)) ∧ (iI ((k.val : Int) / 8) &&& iI 1 = iI ((k.val : Int) / 8 % 2)) := by decide +kernel
theorem qb_all {k : Int} (h : 0 ≤ k ∧ k < 16) : (iI k &&& iI 1 = iI (k % 2)) ∧ (iI k >>> (iI 1 &&& 31) = iI (k / 2)) ∧ (iI (k / 2) &&& iI 1 = iI (k / 2 % 2)) ∧ (iI k >>> (iI 2 &&& 31) = iI (k / 4)) ∧ (iI (k / 4) &&& iI 1 = iI (k / 4 % 2)) ∧ (iI k >>> (iI 3 &&& 31) = iI (k / 8)) ∧ (iI (k / 8) &&& iI 1 = iI (k / 8 % 2)) := by
  obtain ⟨j, rfl⟩ := fin16 h; exact qb_A j
theorem hb_A : ∀ k : Fin 64, (iI (k.val : Int) >>> (iI 4 &&& 31) = iI ((k.val : Int) / 16)) ∧ (iI (k.val : Int) >>> (iI 5 &&& 31) = iI ((k.val : Int) / 32)) ∧ (iI ((k.val : Int) / 16) &&& iI 1 = iI ((k.val : Int) / 16 % 2)) ∧ (iI ((k.val : Int) / 32) &&& iI 1 = iI ((k.val : Int) / 32 % 2)) := by decide +kernel
theorem hb_all {k : Int} (h : 0 ≤ k ∧ k < 64) : (iI k >>> (iI 4 &&& 31) = iI (k / 16)) ∧ (iI k >>> (iI 5 &&& 31) = iI (k / 32)) ∧ (iI (k / 16) &&& iI 1 = iI (k / 16 % 2)) ∧ (iI (k / 32) &&& iI 1 = iI (k / 32 % 2)) := by
  obtain ⟨j, rfl⟩ := fin64 h; exact hb_A j
theorem bt_q1A : ∀ d k : Fin 16, iI ((d.val : Int) + 16 * ((k.val : Int) % 2)) ||| iI ((k.val : Int) / 2 % 2 * 32) = iI ((d.val : Int) + 16 * ((k.val : Int) % 4)) := by decide +kernel
theorem bt_q1 {d k : Int} (hd : 0 ≤ d ∧ d < 16) (hk : 0 ≤ k ∧ k < 16) : iI (d + 16 * (k % 2)) ||| iI (k / 2 % 2 * 32) = iI (d + 16 * (k % 4)) := by
  obtain ⟨i, rfl⟩ := fin16 hd; obtain ⟨j, rfl⟩ := fin16 hk; exact bt_q1A i j
theorem bt_q2A : ∀ d k : Fin 16, iI ((d.val : Int) + 16 * ((k.val : Int) / 4 % 2)) ||| iI ((k.val : Int) / 8 % 2 * 32) = iI ((d.val : Int) + 16 * ((k.val : Int) / 4)) := by decide +kernel
theorem bt_q2 {d k : Int} (hd : 0 ≤ d ∧ d < 16) (hk : 0 ≤ k ∧ k < 16) : iI (d + 16 * (k / 4 % 2)) ||| iI (k / 8 % 2 * 32) = iI (d + 16 * (k / 4)) := by
  obtain ⟨i, rfl⟩ := fin16 hd; obtain ⟨j, rfl⟩ := fin16 hk; exact bt_q2A i j
def ftY (o k i a b : Int) (y : SX) : SX := up (up (up (up (up y 32 (cst o)) 33 (cst k)) 34 (cst i)) 35 (cst a)) 36 (cst b)
theorem sw_may_168 : ∀ k : Fin 64, ((k.val : Int) = 50) → lsw 200 #[(1, 121), (2, 121), (4, 121), (21, 109), (37, 158), (40, 147), (50, 82), (56, 147), (59, 184)] (k.val : Int) = 82 := by decide +kernel
theorem sw_may_195 : ∀ k : Fin 64, ((k.val : Int) = 21) → lsw 200 #[(1, 121), (2, 121), (4, 121), (21, 109), (37, 158), (40, 147), (50, 82), (56, 147), (59, 184)] (k.val : Int) = 109 := by decide +kernel
theorem sw_may_207 : ∀ k : Fin 64, ((k.val : Int) = 1 ∨ (k.val : Int) = 2 ∨ (k.val : Int) = 4) → lsw 200 #[(1, 121), (2, 121), (4, 121), (21, 109), (37, 158), (40, 147), (50, 82), (56, 147), (59, 184)] (k.val : Int) = 121 := by decide +kernel
theorem sw_may_233 : ∀ k : Fin 64, ((k.val : Int) = 40 ∨ (k.val : Int) = 56) → lsw 200 #[(1, 121), (2, 121), (4, 121), (21, 109), (37, 158), (40, 147), (50, 82), (56, 147), (59, 184)] (k.val : Int) = 147 := by decide +kernel
theorem sw_may_244 : ∀ k : Fin 64, ((k.val : Int) = 37) → lsw 200 #[(1, 121), (2, 121), (4, 121), (21, 109), (37, 158), (40, 147), (50, 82), (56, 147), (59, 184)] (k.val : Int) = 158 := by decide +kernel
theorem sw_may_270 : ∀ k : Fin 64, ((k.val : Int) = 59) → lsw 200 #[(1, 121), (2, 121), (4, 121), (21, 109), (37, 158), (40, 147), (50, 82), (56, 147), (59, 184)] (k.val : Int) = 184 := by decide +kernel
theorem sw_may_d : ∀ k : Fin 64, ¬ ((k.val : Int) = 50 ∨ (k.val : Int) = 21 ∨ (k.val : Int) = 1 ∨ (k.val : Int) = 2 ∨ (k.val : Int) = 4 ∨ (k.val : Int) = 40 ∨ (k.val : Int) = 56 ∨ (k.val : Int) = 37 ∨ (k.val : Int) = 59) → lsw 200 #[(1, 121), (2, 121), (4, 121), (21, 109), (37, 158), (40, 147), (50, 82), (56, 147), (59, 184)] (k.val : Int) = 200 := by decide +kernel
set_option maxHeartbeats 4000000 in
set_option maxRecDepth 100000 in
theorem c_MO_device (l : Launch) (D : va_G) (T : Nat → ClassId) (sz : Nat) (q : Nat → Nat) (n : Nat) (hn : 400 ≤ n ∧ n ≤ 2000) (x y : SX) (hX : okX x) (hY : (0 ≤ y 32 0 ∧ y 32 0 < 64) ∧ (1 ≤ y 33 0 ∧ y 33 0 ≤ 8)) : MI l y_MO_device (wY y_MO_device b_MO_device 2 (some .int)) (rmK 2) D vwCl (tyL T) nwL sz [.ref (q 20)] (moW T q n (x 0) (x 1) (mkF (x 2) (x 18 0)) (cdF (x 2) (x 18 0)) (x 3) (x 4) (x 11 0) (x 12 0) (x 13 0) (x 14 0) (x 15 0) (x 16 0) (x 17 0) (x 18 0) (x 19 0) (x 20 0) (x 21 0) (x 22 0) (y 31 0) (y 32 0) (y 33 0) (y 34 0) (y 35 0) (y 36 0) (y 37) (y 38) (y 39)) (fun r (u : SX × SX) => pst (dvcS (y 32 0) (y 33 0) x) r u.1 ∧ (u.2 31 = y 31 ∧ u.2 33 = y 33)) (fun (u : SX × SX) => moX T q n u.1 u.2) := by
  refine cx_inI (by decide) rfl (Nat.le_of_ble_eq_true rfl) ?_
  intro p e s m below meth cd ls A Q hx hb hml hT hown hret hP hK hD hN hS hA hl
  have hown : s.vm.findClass R_MO = some m.cls := hown
  have hl : lv_has ls 2 [(0, .ref (q 20))] := hl
  have hC := hX.1
  have hR0 := hX.2.1
  have hF := hX.2.2
  unfold okR at hR0
  refine lv_aload_n hx hb d_MO_device_0 rfl (lv_at hl 0 rfl) ?_
  refine va_get (D := D) (ci := 5) (v := .int (iI (y 32 0))) (C := R_MO) (T := T_MO) (N := 28) hx hb hT lays_MO hown hK hP 0 rfl rfl 12 (by decide) (hT _ tw_648) (fun _ h9 => h9) rfl d_MO_device_1 ?_
  refine cx_iconst hx hb d_MO_device_4 ?_
  refine cx_icmp_ne (tgt := 15) hx hb d_MO_device_5 rfl (by omega) (by omega) (fun h5 => ?_) (fun h5 => ?_)
  · refine lv_aload_n hx hb d_MO_device_15 rfl (lv_at hl 0 rfl) ?_
    refine va_get (D := D) (ci := 5) (v := .int (iI (y 32 0))) (C := R_MO) (T := T_MO) (N := 28) hx hb hT lays_MO hown hK hP 0 rfl rfl 12 (by decide) (hT _ tw_648) (fun _ h9 => h9) rfl d_MO_device_16 ?_
    refine cx_iconst hx hb d_MO_device_19 ?_
    refine cx_icmp_ne (tgt := 30) hx hb d_MO_device_20 rfl (by omega) (by omega) (fun h20 => ?_) (fun h20 => ?_)
    · refine lv_aload_n hx hb d_MO_device_30 rfl (lv_at hl 0 rfl) ?_
      refine cx_cI (ws2 := fun (u : SX × SX) => moX T q n u.1 u.2) (cx_rV (q0 := 0) (ci := 5) (rest := []) (As := []) hx hb hml hown hT hK hN hP hD hl.1 tw_878 k_MO_punchCard (c_MO_punchCard l D T s.heap.size q n hn x y hX) ⟨by decide, by decide⟩ ⟨rfl, rfl⟩ [0, 1, 2, 3, 4, 5, 6, 7, 8, 9] (by decide) rfl rfl rfl rfl rfl (Nat.le_of_ble_eq_true rfl) ⟨Nat.zero_le _, Nat.zero_le _⟩ d_MO_device_31) hP hD hS hA [0, 1, 2, 3, 4, 5, 6, 7, 8, 9] [] [0, 1, 2, 3, 4, 5, 6, 7, 8, 9] rfl (wr := []) rfl (by decide) (by decide) (fun _ => rfl) (by decide) (fun r u_ H locs hq31 hP hD hS => ?_)
      obtain ⟨⟨hr9, hu9, hE⟩, h319, h339⟩ := hq31
      subst hr9
      have hq9 := fil_in 4 20 20 101 80 x
      have h338 : u_.2 33 0 = y 33 0 := congrFun h339 0
      refine lv_istore_n (lv' := [(1, .int (iI ((filS 4 20 20 101 80 0 x).1))), (0, .ref (q 20))]) hx hb d_MO_device_34 rfl hl (by decide) rfl (fun ls hl => ?_)
      refine lv_iload_n hx hb d_MO_device_35 rfl (lv_at hl 0 rfl) ?_
      refine cx_if_ne (tgt := 51) hx hb d_MO_device_36 rfl (by omega) (fun h36 => ?_) (fun h36 => ?_)
      · refine lv_iload_n hx hb d_MO_device_51 rfl (lv_at hl 0 rfl) ?_
        exact hret ((u_.1, u_.2) : SX × SX) (⟨pst_of (show dvcS (y 32 0) (y 33 0) x = ((filS 4 20 20 101 80 0 x).1, u_.1) by unfold dvcS; rw [if_neg (by omega), if_neg (by omega), fil_g]; by_cases h0 : (filS 4 20 20 101 80 0 x).1 = 0; rw [if_pos h0, if_pos (show y 33 0 < 4 by omega), h0, hu9]; rfl; rw [if_neg h0, hu9]) hE, ⟨h319, h339⟩⟩) hP hD hS d_MO_device_52
      · refine lv_aload_n hx hb d_MO_device_39 rfl (lv_at hl 1 rfl) ?_
        refine va_get (D := D) (ci := 5) (v := .int (iI (u_.2 33 0))) (C := R_MO) (T := T_MO) (N := 28) hx hb hT lays_MO hown hK hP 0 rfl rfl 13 (by decide) (hT _ tw_649) (fun _ h9 => h9) rfl d_MO_device_40 ?_
        refine cx_iconst hx hb d_MO_device_43 ?_
        refine cx_icmp_le (tgt := 51) hx hb d_MO_device_44 rfl (by omega) (by omega) (fun h44 => ?_) (fun h44 => ?_)
        · refine lv_iload_n hx hb d_MO_device_51 rfl (lv_at hl 0 rfl) ?_
          exact hret ((u_.1, u_.2) : SX × SX) (⟨pst_of (show dvcS (y 32 0) (y 33 0) x = ((filS 4 20 20 101 80 0 x).1, u_.1) by unfold dvcS; rw [if_neg (by omega), if_neg (by omega), fil_g]; by_cases h0 : (filS 4 20 20 101 80 0 x).1 = 0; rw [if_pos h0, if_pos (show y 33 0 < 4 by omega), h0, hu9]; rfl; rw [if_neg h0, hu9]) hE, ⟨h319, h339⟩⟩) hP hD hS d_MO_device_52
        · refine lv_aload_n hx hb d_MO_device_47 rfl (lv_at hl 1 rfl) ?_
          refine cx_cV (ws2 := fun _ => moW T q n ((goS u_.1) 0) ((goS u_.1) 1) (mkF ((goS u_.1) 2) ((goS u_.1) 18 0)) (cdF ((goS u_.1) 2) ((goS u_.1) 18 0)) ((goS u_.1) 3) ((goS u_.1) 4) ((goS u_.1) 11 0) ((goS u_.1) 12 0) ((goS u_.1) 13 0) ((goS u_.1) 14 0) ((goS u_.1) 15 0) ((goS u_.1) 16 0) ((goS u_.1) 17 0) ((goS u_.1) 18 0) ((goS u_.1) 19 0) ((goS u_.1) 20 0) ((goS u_.1) 21 0) ((goS u_.1) 22 0) (u_.2 31 0) (u_.2 32 0) (u_.2 33 0) (u_.2 34 0) (u_.2 35 0) (u_.2 36 0) (u_.2 37) (u_.2 38) (u_.2 39)) (cx_rV (q0 := 0) (ci := 5) (rest := []) (As := []) hx hb hml hown hT hK hN hP hD hl.1 tw_846 k_MO_go (c_MO_go l D T H.size q n hn u_.1 u_.2 hE) ⟨by decide, by decide⟩ ⟨rfl, rfl⟩ [0, 1, 2, 3, 4, 5, 6, 7, 8, 9] (by decide) rfl rfl rfl rfl rfl (Nat.le_of_ble_eq_true rfl) ⟨Nat.zero_le _, Nat.zero_le _⟩ d_MO_device_48) hP hD hS hA [0, 1, 2, 3, 4, 5, 6, 7, 8, 9] [] [0, 1, 2, 3, 4, 5, 6, 7, 8, 9] rfl (wr := []) rfl (by decide) (by decide) (fun _ => rfl) (by decide) (fun u_ H locs hq48 hP hD hS => ?_)
          refine lv_iload_n hx hb d_MO_device_51 rfl (lv_at hl 0 rfl) ?_
          exact hret ((goS u_.1, u_.2) : SX × SX) (⟨pst_of (show dvcS (y 32 0) (y 33 0) x = ((filS 4 20 20 101 80 0 x).1, goS u_.1) by unfold dvcS; rw [if_neg (by omega), if_neg (by omega), fil_g]; rw [if_pos (show (filS 4 20 20 101 80 0 x).1 = 0 by omega), if_neg (show ¬ y 33 0 < 4 by omega), show (filS 4 20 20 101 80 0 x).1 = 0 by omega, hu9]; rfl) (goS_ok hE), ⟨h319, h339⟩⟩) hP hD hS d_MO_device_52
    · refine lv_aload_n hx hb d_MO_device_23 rfl (lv_at hl 0 rfl) ?_
      refine cx_cI (ws2 := fun (u : SX × SX) => moX T q n u.1 u.2) (cx_rV (q0 := 0) (ci := 5) (rest := []) (As := []) hx hb hml hown hT hK hN hP hD hl.1 tw_874 k_MO_print (c_MO_print l D T s.heap.size q n hn x y hX) ⟨by decide, by decide⟩ ⟨rfl, rfl⟩ [0, 1, 2, 3, 4, 5, 6, 7, 8, 9] (by decide) rfl rfl rfl rfl rfl (Nat.le_of_ble_eq_true rfl) ⟨Nat.zero_le _, Nat.zero_le _⟩ d_MO_device_24) hP hD hS hA [0, 1, 2, 3, 4, 5, 6, 7, 8, 9] [] [0, 1, 2, 3, 4, 5, 6, 7, 8, 9] rfl (wr := []) rfl (by decide) (by decide) (fun _ => rfl) (by decide) (fun r u_ H locs hq24 hP hD hS => ?_)
      obtain ⟨⟨hr9, hu9, hE⟩, h319, h339⟩ := hq24
      subst hr9
      have hq9 := fil_in 3 19 40 201 132 x
      have h338 : u_.2 33 0 = y 33 0 := congrFun h339 0
      refine lv_goto (tgt := 34) hx hb d_MO_device_27 rfl ?_
      refine lv_istore_n (lv' := [(1, .int (iI ((filS 3 19 40 201 132 0 x).1))), (0, .ref (q 20))]) hx hb d_MO_device_34 rfl hl (by decide) rfl (fun ls hl => ?_)
      refine lv_iload_n hx hb d_MO_device_35 rfl (lv_at hl 0 rfl) ?_
      refine cx_if_ne (tgt := 51) hx hb d_MO_device_36 rfl (by omega) (fun h36 => ?_) (fun h36 => ?_)
      · refine lv_iload_n hx hb d_MO_device_51 rfl (lv_at hl 0 rfl) ?_
        exact hret ((u_.1, u_.2) : SX × SX) (⟨pst_of (show dvcS (y 32 0) (y 33 0) x = ((filS 3 19 40 201 132 0 x).1, u_.1) by unfold dvcS; rw [if_neg (by omega), if_pos (by omega), fil_g]; by_cases h0 : (filS 3 19 40 201 132 0 x).1 = 0; rw [if_pos h0, if_pos (show y 33 0 < 4 by omega), h0, hu9]; rfl; rw [if_neg h0, hu9]) hE, ⟨h319, h339⟩⟩) hP hD hS d_MO_device_52
      · refine lv_aload_n hx hb d_MO_device_39 rfl (lv_at hl 1 rfl) ?_
        refine va_get (D := D) (ci := 5) (v := .int (iI (u_.2 33 0))) (C := R_MO) (T := T_MO) (N := 28) hx hb hT lays_MO hown hK hP 0 rfl rfl 13 (by decide) (hT _ tw_649) (fun _ h9 => h9) rfl d_MO_device_40 ?_
        refine cx_iconst hx hb d_MO_device_43 ?_
        refine cx_icmp_le (tgt := 51) hx hb d_MO_device_44 rfl (by omega) (by omega) (fun h44 => ?_) (fun h44 => ?_)
        · refine lv_iload_n hx hb d_MO_device_51 rfl (lv_at hl 0 rfl) ?_
          exact hret ((u_.1, u_.2) : SX × SX) (⟨pst_of (show dvcS (y 32 0) (y 33 0) x = ((filS 3 19 40 201 132 0 x).1, u_.1) by unfold dvcS; rw [if_neg (by omega), if_pos (by omega), fil_g]; by_cases h0 : (filS 3 19 40 201 132 0 x).1 = 0; rw [if_pos h0, if_pos (show y 33 0 < 4 by omega), h0, hu9]; rfl; rw [if_neg h0, hu9]) hE, ⟨h319, h339⟩⟩) hP hD hS d_MO_device_52
        · refine lv_aload_n hx hb d_MO_device_47 rfl (lv_at hl 1 rfl) ?_
          refine cx_cV (ws2 := fun _ => moW T q n ((goS u_.1) 0) ((goS u_.1) 1) (mkF ((goS u_.1) 2) ((goS u_.1) 18 0)) (cdF ((goS u_.1) 2) ((goS u_.1) 18 0)) ((goS u_.1) 3) ((goS u_.1) 4) ((goS u_.1) 11 0) ((goS u_.1) 12 0) ((goS u_.1) 13 0) ((goS u_.1) 14 0) ((goS u_.1) 15 0) ((goS u_.1) 16 0) ((goS u_.1) 17 0) ((goS u_.1) 18 0) ((goS u_.1) 19 0) ((goS u_.1) 20 0) ((goS u_.1) 21 0) ((goS u_.1) 22 0) (u_.2 31 0) (u_.2 32 0) (u_.2 33 0) (u_.2 34 0) (u_.2 35 0) (u_.2 36 0) (u_.2 37) (u_.2 38) (u_.2 39)) (cx_rV (q0 := 0) (ci := 5) (rest := []) (As := []) hx hb hml hown hT hK hN hP hD hl.1 tw_846 k_MO_go (c_MO_go l D T H.size q n hn u_.1 u_.2 hE) ⟨by decide, by decide⟩ ⟨rfl, rfl⟩ [0, 1, 2, 3, 4, 5, 6, 7, 8, 9] (by decide) rfl rfl rfl rfl rfl (Nat.le_of_ble_eq_true rfl) ⟨Nat.zero_le _, Nat.zero_le _⟩ d_MO_device_48) hP hD hS hA [0, 1, 2, 3, 4, 5, 6, 7, 8, 9] [] [0, 1, 2, 3, 4, 5, 6, 7, 8, 9] rfl (wr := []) rfl (by decide) (by decide) (fun _ => rfl) (by decide) (fun u_ H locs hq48 hP hD hS => ?_)
          refine lv_iload_n hx hb d_MO_device_51 rfl (lv_at hl 0 rfl) ?_
          exact hret ((goS u_.1, u_.2) : SX × SX) (⟨pst_of (show dvcS (y 32 0) (y 33 0) x = ((filS 3 19 40 201 132 0 x).1, goS u_.1) by unfold dvcS; rw [if_neg (by omega), if_pos (by omega), fil_g]; rw [if_pos (show (filS 3 19 40 201 132 0 x).1 = 0 by omega), if_neg (show ¬ y 33 0 < 4 by omega), show (filS 3 19 40 201 132 0 x).1 = 0 by omega, hu9]; rfl) (goS_ok hE), ⟨h319, h339⟩⟩) hP hD hS d_MO_device_52
  · refine lv_aload_n hx hb d_MO_device_8 rfl (lv_at hl 0 rfl) ?_
    refine cx_cI (ws2 := fun (u : SX × SX) => moX T q n u.1 u.2) (cx_rV (q0 := 0) (ci := 5) (rest := []) (As := []) hx hb hml hown hT hK hN hP hD hl.1 tw_870 k_MO_readCard (c_MO_readCard l D T s.heap.size q n hn x y hX) ⟨by decide, by decide⟩ ⟨rfl, rfl⟩ [0, 1, 2, 3, 4, 5, 6, 7, 8, 9] (by decide) rfl rfl rfl rfl rfl (Nat.le_of_ble_eq_true rfl) ⟨Nat.zero_le _, Nat.zero_le _⟩ d_MO_device_9) hP hD hS hA [0, 1, 2, 3, 4, 5, 6, 7, 8, 9] [] [0, 1, 2, 3, 4, 5, 6, 7, 8, 9] rfl (wr := []) rfl (by decide) (by decide) (fun _ => rfl) (by decide) (fun r u_ H locs hq9 hP hD hS => ?_)
    obtain ⟨⟨hr9, hu9, hE⟩, h319, h339⟩ := hq9
    subst hr9
    have hq9 := rdc_in x
    have h338 : u_.2 33 0 = y 33 0 := congrFun h339 0
    refine lv_goto (tgt := 34) hx hb d_MO_device_12 rfl ?_
    refine lv_istore_n (lv' := [(1, .int (iI ((rdcS 0 x).1))), (0, .ref (q 20))]) hx hb d_MO_device_34 rfl hl (by decide) rfl (fun ls hl => ?_)
    refine lv_iload_n hx hb d_MO_device_35 rfl (lv_at hl 0 rfl) ?_
    refine cx_if_ne (tgt := 51) hx hb d_MO_device_36 rfl (by omega) (fun h36 => ?_) (fun h36 => ?_)
    · refine lv_iload_n hx hb d_MO_device_51 rfl (lv_at hl 0 rfl) ?_
      exact hret ((u_.1, u_.2) : SX × SX) (⟨pst_of (show dvcS (y 32 0) (y 33 0) x = ((rdcS 0 x).1, u_.1) by unfold dvcS; rw [if_pos (by omega), rdc_g]; by_cases h0 : (rdcS 0 x).1 = 0; rw [if_pos h0, if_pos (show y 33 0 < 4 by omega), h0, hu9]; rfl; rw [if_neg h0, hu9]) hE, ⟨h319, h339⟩⟩) hP hD hS d_MO_device_52
    · refine lv_aload_n hx hb d_MO_device_39 rfl (lv_at hl 1 rfl) ?_
      refine va_get (D := D) (ci := 5) (v := .int (iI (u_.2 33 0))) (C := R_MO) (T := T_MO) (N := 28) hx hb hT lays_MO hown hK hP 0 rfl rfl 13 (by decide) (hT _ tw_649) (fun _ h9 => h9) rfl d_MO_device_40 ?_
      refine cx_iconst hx hb d_MO_device_43 ?_
      refine cx_icmp_le (tgt := 51) hx hb d_MO_device_44 rfl (by omega) (by omega) (fun h44 => ?_) (fun h44 => ?_)
      · refine lv_iload_n hx hb d_MO_device_51 rfl (lv_at hl 0 rfl) ?_
        exact hret ((u_.1, u_.2) : SX × SX) (⟨pst_of (show dvcS (y 32 0) (y 33 0) x = ((rdcS 0 x).1, u_.1) by unfold dvcS; rw [if_pos (by omega), rdc_g]; by_cases h0 : (rdcS 0 x).1 = 0; rw [if_pos h0, if_pos (show y 33 0 < 4 by omega), h0, hu9]; rfl; rw [if_neg h0, hu9]) hE, ⟨h319, h339⟩⟩) hP hD hS d_MO_device_52
      · refine lv_aload_n hx hb d_MO_device_47 rfl (lv_at hl 1 rfl) ?_
        refine cx_cV (ws2 := fun _ => moW T q n ((goS u_.1) 0) ((goS u_.1) 1) (mkF ((goS u_.1) 2) ((goS u_.1) 18 0)) (cdF ((goS u_.1) 2) ((goS u_.1) 18 0)) ((goS u_.1) 3) ((goS u_.1) 4) ((goS u_.1) 11 0) ((goS u_.1) 12 0) ((goS u_.1) 13 0) ((goS u_.1) 14 0) ((goS u_.1) 15 0) ((goS u_.1) 16 0) ((goS u_.1) 17 0) ((goS u_.1) 18 0) ((goS u_.1) 19 0) ((goS u_.1) 20 0) ((goS u_.1) 21 0) ((goS u_.1) 22 0) (u_.2 31 0) (u_.2 32 0) (u_.2 33 0) (u_.2 34 0) (u_.2 35 0) (u_.2 36 0) (u_.2 37) (u_.2 38) (u_.2 39)) (cx_rV (q0 := 0) (ci := 5) (rest := []) (As := []) hx hb hml hown hT hK hN hP hD hl.1 tw_846 k_MO_go (c_MO_go l D T H.size q n hn u_.1 u_.2 hE) ⟨by decide, by decide⟩ ⟨rfl, rfl⟩ [0, 1, 2, 3, 4, 5, 6, 7, 8, 9] (by decide) rfl rfl rfl rfl rfl (Nat.le_of_ble_eq_true rfl) ⟨Nat.zero_le _, Nat.zero_le _⟩ d_MO_device_48) hP hD hS hA [0, 1, 2, 3, 4, 5, 6, 7, 8, 9] [] [0, 1, 2, 3, 4, 5, 6, 7, 8, 9] rfl (wr := []) rfl (by decide) (by decide) (fun _ => rfl) (by decide) (fun u_ H locs hq48 hP hD hS => ?_)
        refine lv_iload_n hx hb d_MO_device_51 rfl (lv_at hl 0 rfl) ?_
        exact hret ((goS u_.1, u_.2) : SX × SX) (⟨pst_of (show dvcS (y 32 0) (y 33 0) x = ((rdcS 0 x).1, goS u_.1) by unfold dvcS; rw [if_pos (by omega), rdc_g]; rw [if_pos (show (rdcS 0 x).1 = 0 by omega), if_neg (show ¬ y 33 0 < 4 by omega), show (rdcS 0 x).1 = 0 by omega, hu9]; rfl) (goS_ok hE), ⟨h319, h339⟩⟩) hP hD hS d_MO_device_52

set_option maxHeartbeats 4000000 in
set_option maxRecDepth 100000 in
theorem c_MO_keepRegister (l : Launch) (D : va_G) (T : Nat → ClassId) (sz : Nat) (q : Nat → Nat) (n : Nat) (hn : 400 ≤ n ∧ n ≤ 2000) (x y : SX) (hX : okX x) (hY : (0 ≤ y 32 0 ∧ y 32 0 < 64) ∧ (1 ≤ y 33 0 ∧ y 33 0 ≤ 8)) (hH : (-1 ≤ y 35 0 ∧ y 35 0 ≤ 16000) ∧ (-1 ≤ y 36 0 ∧ y 36 0 ≤ 16000)) (hB : y 36 0 = x 13 0) : MI l y_MO_keepRegister (wY y_MO_keepRegister b_MO_keepRegister 3 (some .int)) (rmK 1) D vwCl (tyL T) nwL sz [.ref (q 20)] (moW T q n (x 0) (x 1) (mkF (x 2) (x 18 0)) (cdF (x 2) (x 18 0)) (x 3) (x 4) (x 11 0) (x 12 0) (x 13 0) (x 14 0) (x 15 0) (x 16 0) (x 17 0) (x 18 0) (x 19 0) (x 20 0) (x 21 0) (x 22 0) (y 31 0) (y 32 0) (y 33 0) (y 34 0) (y 35 0) (y 36 0) (y 37) (y 38) (y 39)) (fun r (u : SX × SX) => pst (staS n (if y 32 0 = 40 then y 35 0 else y 36 0) x) r u.1 ∧ (u.2 31 = y 31 ∧ u.2 33 = y 33)) (fun (u : SX × SX) => moX T q n u.1 u.2) := by
  refine cx_inI (by decide) rfl (Nat.le_of_ble_eq_true rfl) ?_
  intro p e s m below meth cd ls A Q hx hb hml hT hown hret hP hK hD hN hS hA hl
  have hown : s.vm.findClass R_MO = some m.cls := hown
  have hl : lv_has ls 3 [(0, .ref (q 20))] := hl
  have hC := hX.1
  have hR0 := hX.2.1
  have hF := hX.2.2
  unfold okR at hR0
  refine lv_aload_n hx hb d_MO_keepRegister_0 rfl (lv_at hl 0 rfl) ?_
  refine lv_aload_n hx hb d_MO_keepRegister_1 rfl (lv_at hl 0 rfl) ?_
  refine va_get (D := D) (ci := 5) (v := .int (iI (x 12 0))) (C := R_MO) (T := T_MO) (N := 28) hx hb hT lays_MO hown hK hP 0 rfl rfl 5 (by decide) (hT _ tw_641) (fun _ h9 => h9) rfl d_MO_keepRegister_2 ?_
  refine cx_cI (ws2 := fun _ => moW T q n (x 0) (x 1) (mkF (x 2) (x 18 0)) (cdF (x 2) (x 18 0)) (x 3) (x 4) (x 11 0) (x 12 0) (x 13 0) (x 14 0) (x 15 0) (x 16 0) (x 17 0) (x 18 0) (x 19 0) (x 20 0) (x 21 0) (x 22 0) (y 31 0) (y 32 0) (y 33 0) (y 34 0) (y 35 0) (y 36 0) (y 37) (y 38) (y 39)) (cx_rV (q0 := 0) (ci := 5) (rest := []) (As := [.int (iI (x 12 0))]) hx hb hml hown hT hK hN hP hD hl.1 tw_731 k_MO_is (c_MO_is l D T s.heap.size q n hn x y hX (x 12 0) (by omega)) ⟨by decide, by decide⟩ ⟨rfl, rfl⟩ [0, 1, 2, 3, 4, 5, 6, 7, 8, 9] (by decide) rfl rfl rfl rfl rfl (Nat.le_of_ble_eq_true rfl) ⟨Nat.zero_le _, Nat.zero_le _⟩ d_MO_keepRegister_5) hP hD hS hA [0, 1, 2, 3, 4, 5, 6, 7, 8, 9] [] [0, 1, 2, 3, 4, 5, 6, 7, 8, 9] rfl (wr := []) rfl (by decide) (by decide) (fun _ => rfl) (by decide) (fun r u_ H locs hq5 hP hD hS => ?_)
  rcases hq5 with ⟨rfl, h5⟩ | ⟨rfl, h5⟩
  · refine cx_if_eq (tgt := 24) hx hb d_MO_keepRegister_8 rfl (by omega) (fun h0 => absurd h0 (by decide)) (fun _ => ?_)
    refine lv_aload_n hx hb d_MO_keepRegister_11 rfl (lv_at hl 0 rfl) ?_
    refine lv_aload_n hx hb d_MO_keepRegister_12 rfl (lv_at hl 0 rfl) ?_
    refine va_get (D := D) (ci := 5) (v := .int (iI (x 12 0))) (C := R_MO) (T := T_MO) (N := 28) hx hb hT lays_MO hown hK hP 0 rfl rfl 5 (by decide) (hT _ tw_641) (fun _ h9 => h9) rfl d_MO_keepRegister_13 ?_
    refine cx_iconst hx hb d_MO_keepRegister_16 ?_
    refine cx_isub hx hb d_MO_keepRegister_17 ?_
    refine cx_cI (ws2 := fun _ => moW T q n (x 0) (x 1) (mkF (x 2) (x 18 0)) (cdF (x 2) (x 18 0)) (x 3) (x 4) (x 11 0) (x 12 0) (x 13 0) (x 14 0) (x 15 0) (x 16 0) (x 17 0) (x 18 0) (x 19 0) (x 20 0) (x 21 0) (x 22 0) (y 31 0) (y 32 0) (y 33 0) (y 34 0) (y 35 0) (y 36 0) (y 37) (y 38) (y 39)) (cx_rV (q0 := 0) (ci := 5) (rest := []) (As := [.int (iI ((x 12 0) - 2))]) hx hb hml hown hT hK hN hP hD hl.1 tw_731 k_MO_is (c_MO_is l D T H.size q n hn x y hX ((x 12 0) - 2) (by omega)) ⟨by decide, by decide⟩ ⟨rfl, rfl⟩ [0, 1, 2, 3, 4, 5, 6, 7, 8, 9] (by decide) rfl rfl rfl rfl rfl (Nat.le_of_ble_eq_true rfl) ⟨Nat.zero_le _, Nat.zero_le _⟩ d_MO_keepRegister_18) hP hD hS hA [0, 1, 2, 3, 4, 5, 6, 7, 8, 9] [] [0, 1, 2, 3, 4, 5, 6, 7, 8, 9] rfl (wr := []) rfl (by decide) (by decide) (fun _ => rfl) (by decide) (fun r u_ H locs hq18 hP hD hS => ?_)
    rcases hq18 with ⟨rfl, h18⟩ | ⟨rfl, h18⟩
    · refine cx_if_ne (tgt := 26) hx hb d_MO_keepRegister_21 rfl (by omega) (fun _ => ?_) (fun h0 => absurd h0 (by decide))
      have J46 : ∀ v46 : Int, ((y 32 0 = 40 ∧ v46 = y 35 0) ∨ (¬ y 32 0 = 40 ∧ v46 = y 36 0)) → W p l e (rmK 1) s m ([.ref (q 20)] : List Value).toArray below meth cd H locs 0 0 Q (F0 m 46 ls [.int (iI v46)]) := by
        intro v46 hv46
        refine cx_sipush hx hb d_MO_keepRegister_46 rfl ?_
        by_cases h0 : 0 ≤ v46
        · refine cx_irem hx hb d_MO_keepRegister_49 (by omega) (by omega) ?_
          refine lv_istore_n (lv' := [(1, .int (iI (v46 % 16000))), (0, .ref (q 20))]) hx hb d_MO_keepRegister_50 rfl hl (by decide) rfl (fun ls hl => ?_)
          refine lv_iload_n hx hb d_MO_keepRegister_51 rfl (lv_at hl 0 rfl) ?_
          refine cx_if_ge (tgt := 63) hx hb d_MO_keepRegister_52 rfl (by omega) (fun h52 => ?_) (fun h52 => absurd h52 (by omega))
          refine lv_iload_n hx hb d_MO_keepRegister_63 rfl (lv_at hl 0 rfl) ?_
          obtain ⟨v, hv⟩ : ∃ z : Int, z = v46 % 16000 := ⟨_, rfl⟩
          refine cx_eq (show iI (v46 % 16000) = iI v from by rw [hv]) ?_
          have hv1 : 0 ≤ v ∧ v < 16000 := by omega
          have hw1 := wrt_in (v := (v / 100) % 10) (by omega)
          have hw2 := wrt_in (v := (v / 10) % 10) (by omega)
          have hw3 := wrt_in (v := v % 10) (by omega)
          have hq0 : 0 ≤ v / 1000 ∧ v / 1000 < 16 := by omega
          refine lv_istore_n (lv' := [(1, .int (iI (v))), (0, .ref (q 20))]) hx hb d_MO_keepRegister_64 rfl hl (by decide) rfl (fun ls hl => ?_)
          refine lv_iload_n hx hb d_MO_keepRegister_65 rfl (lv_at hl 0 rfl) ?_
          refine cx_sipush hx hb d_MO_keepRegister_66 rfl ?_
          refine cx_idiv hx hb d_MO_keepRegister_69 (by omega) (by omega) ?_
          refine lv_istore_n (lv' := [(2, .int (iI (v / 1000))), (1, .int (iI (v))), (0, .ref (q 20))]) hx hb d_MO_keepRegister_70 rfl hl (by decide) rfl (fun ls hl => ?_)
          refine lv_aload_n hx hb d_MO_keepRegister_71 rfl (lv_at hl 2 rfl) ?_
          refine va_get (D := D) (ci := 5) (v := .ref (q 21)) (C := R_MO) (T := T_MO) (N := 28) hx hb hT lays_MO hown hK hP 0 rfl rfl 2 (by decide) (hT _ tw_638) (fun _ h9 => h9) rfl d_MO_keepRegister_72 ?_
          refine lv_aload_n hx hb d_MO_keepRegister_75 rfl (lv_at hl 2 rfl) ?_
          refine va_get (D := D) (ci := 5) (v := .int (iI (x 12 0))) (C := R_MO) (T := T_MO) (N := 28) hx hb hT lays_MO hown hK hP 0 rfl rfl 5 (by decide) (hT _ tw_641) (fun _ h9 => h9) rfl d_MO_keepRegister_76 ?_
          refine cx_iconst hx hb d_MO_keepRegister_79 ?_
          refine cx_isub hx hb d_MO_keepRegister_80 ?_
          refine lv_iload_n hx hb d_MO_keepRegister_81 rfl (lv_at hl 1 rfl) ?_
          refine cx_bipush hx hb d_MO_keepRegister_82 rfl ?_
          refine cx_idiv hx hb d_MO_keepRegister_84 (by omega) (by omega) ?_
          refine cx_bipush hx hb d_MO_keepRegister_85 rfl ?_
          refine cx_irem hx hb d_MO_keepRegister_87 (by omega) (by omega) ?_
          refine cx_cI (ws2 := fun _ => moW T q n (x 0) (x 1) (mkF (x 2) (x 18 0)) (cdF (x 2) (x 18 0)) (x 3) (x 4) (x 11 0) (x 12 0) (x 13 0) (x 14 0) (x 15 0) (x 16 0) (x 17 0) (x 18 0) (x 19 0) (x 20 0) (x 21 0) (x 22 0) (y 31 0) (y 32 0) (y 33 0) (y 34 0) (y 35 0) (y 36 0) (y 37) (y 38) (y 39)) (cx_rS (rest := [.int (iI ((x 12 0) - 2)), .ref (q 21)]) (As := [.int (iI ((v / 100) % 10))]) hx hb hml hown hT hK hN hP hD hl.1 tw_804 k_MO_digit (c_MO_digit l D T H.size ((v / 100) % 10) (by omega)) ⟨by decide, by decide⟩ ⟨rfl, rfl⟩ [] (by decide) rfl rfl rfl (Nat.le_of_ble_eq_true rfl) ⟨Nat.zero_le _, Nat.zero_le _⟩ d_MO_keepRegister_88) hP hD hS hA [] [0, 1, 2, 3, 4, 5, 6, 7, 8, 9] [0, 1, 2, 3, 4, 5, 6, 7, 8, 9] rfl (wr := [(q 20, .inr (5, [.int (iI (y 31 0)), .int (iI ((n : Int))), .ref (q 21), .ref (q 22), .int (iI (x 11 0)), .int (iI (x 12 0)), .int (iI (x 13 0)), .int (iI (x 14 0)), .int (iI (x 15 0)), .int (iI (x 16 0)), .int (iI (x 21 0)), .int (iI (x 22 0)), .int (iI (y 32 0)), .int (iI (y 33 0)), .int (iI (y 34 0)), .int (iI (y 35 0)), .int (iI (y 36 0)), .ref (q 23), .int (iI (x 18 0)), .int (iI (x 17 0)), .ref (q 24), .int (iI (x 19 0)), .ref (q 25), .int (iI (x 20 0)), .ref (q 26), .ref (q 27), .ref (q 28), .ref (q 29)])), (q 21, .inl (T 1, 2000, .inl (fun jj : Nat => (iF (x 0)) (jj : Int)))), (q 22, .inl (T 2, 2000, .inl (fun jj : Nat => (iF (x 1)) (jj : Int)))), (q 23, .inl (T 1, 80, .inl (fun jj : Nat => (iF (mkF (x 2) (x 18 0))) (jj : Int)))), (q 24, .inl (T 1, 1600, .inl (fun jj : Nat => (iF (cdF (x 2) (x 18 0))) (jj : Int)))), (q 25, .inl (T 1, 5280, .inl (fun jj : Nat => (iF (x 3)) (jj : Int)))), (q 26, .inl (T 1, 1600, .inl (fun jj : Nat => (iF (x 4)) (jj : Int)))), (q 27, .inl (T 0, 2000, .inl (fun jj : Nat => (iF (y 37)) (jj : Int)))), (q 28, .inl (T 0, 2000, .inl (fun jj : Nat => (iF (y 38)) (jj : Int)))), (q 29, .inl (T 1, 2000, .inl (fun jj : Nat => (iF (y 39)) (jj : Int))))]) rfl (by decide) (by decide) (fun _ => rfl) (by decide) (fun r u_ H locs hq88 hP hD hS => ?_)
          subst hq88
          refine lv_iload_n hx hb d_MO_keepRegister_91 rfl (lv_at hl 0 rfl) ?_
          refine cx_iconst hx hb d_MO_keepRegister_92 ?_
          refine lv_iand hx hb d_MO_keepRegister_93 ?_
          refine cx_eq ((qb_all hq0).1) ?_
          refine cx_bipush hx hb d_MO_keepRegister_94 rfl ?_
          refine cx_imul hx hb d_MO_keepRegister_96 ?_
          refine lv_ior hx hb d_MO_keepRegister_97 ?_
          refine cx_eq (bt_zd (by omega) (by omega)) ?_
          refine lv_iload_n hx hb d_MO_keepRegister_98 rfl (lv_at hl 0 rfl) ?_
          refine cx_iconst hx hb d_MO_keepRegister_99 ?_
          refine lv_ishr hx hb d_MO_keepRegister_100 ?_
          refine cx_eq ((qb_all hq0).2.1) ?_
          refine cx_iconst hx hb d_MO_keepRegister_101 ?_
          refine lv_iand hx hb d_MO_keepRegister_102 ?_
          refine cx_eq ((qb_all hq0).2.2.1) ?_
          refine cx_bipush hx hb d_MO_keepRegister_103 rfl ?_
          refine cx_imul hx hb d_MO_keepRegister_105 ?_
          refine lv_ior hx hb d_MO_keepRegister_106 ?_
          refine cx_eq (bt_q1 (by omega) (by omega)) ?_
          refine lv_i2b (v := iI (wrt ((v / 100) % 10) + 16 * ((v / 1000) % 4))) hx hb d_MO_keepRegister_107 (i2b_ok (by omega)) ?_
          refine cx_bast (g := iF (x 0)) (g' := iF (fu (x 0) ((x 12 0) - 2) (wrt ((v / 100) % 10) + 16 * ((v / 1000) % 4)))) hx hb hK hP hD hS 1 1 rfl rfl (by omega) (by omega) (by omega) (fun j => iF_put j) d_MO_keepRegister_108 (fun H locs hP hD hS => ?_)
          have hP : va_P D vwCl (moW T q n (fu (x 0) ((x 12 0) - 2) (wrt ((v / 100) % 10) + 16 * ((v / 1000) % 4))) (x 1) (mkF (x 2) (x 18 0)) (cdF (x 2) (x 18 0)) (x 3) (x 4) (x 11 0) (x 12 0) (x 13 0) (x 14 0) (x 15 0) (x 16 0) (x 17 0) (x 18 0) (x 19 0) (x 20 0) (x 21 0) (x 22 0) (y 31 0) (y 32 0) (y 33 0) (y 34 0) (y 35 0) (y 36 0) (y 37) (y 38) (y 39)) H := hP
          have hD : va_D A (moW T q n (fu (x 0) ((x 12 0) - 2) (wrt ((v / 100) % 10) + 16 * ((v / 1000) % 4))) (x 1) (mkF (x 2) (x 18 0)) (cdF (x 2) (x 18 0)) (x 3) (x 4) (x 11 0) (x 12 0) (x 13 0) (x 14 0) (x 15 0) (x 16 0) (x 17 0) (x 18 0) (x 19 0) (x 20 0) (x 21 0) (x 22 0) (y 31 0) (y 32 0) (y 33 0) (y 34 0) (y 35 0) (y 36 0) (y 37) (y 38) (y 39)) := hD
          have hC : okC (fu (x 0) ((x 12 0) - 2) (wrt ((v / 100) % 10) + 16 * ((v / 1000) % 4))) (x 1) := okC_fu hC (by omega)
          refine lv_aload_n hx hb d_MO_keepRegister_109 rfl (lv_at hl 2 rfl) ?_
          refine va_get (D := D) (ci := 5) (v := .ref (q 21)) (C := R_MO) (T := T_MO) (N := 28) hx hb hT lays_MO hown hK hP 0 rfl rfl 2 (by decide) (hT _ tw_638) (fun _ h9 => h9) rfl d_MO_keepRegister_110 ?_
          refine lv_aload_n hx hb d_MO_keepRegister_113 rfl (lv_at hl 2 rfl) ?_
          refine va_get (D := D) (ci := 5) (v := .int (iI (x 12 0))) (C := R_MO) (T := T_MO) (N := 28) hx hb hT lays_MO hown hK hP 0 rfl rfl 5 (by decide) (hT _ tw_641) (fun _ h9 => h9) rfl d_MO_keepRegister_114 ?_
          refine cx_iconst hx hb d_MO_keepRegister_117 ?_
          refine cx_isub hx hb d_MO_keepRegister_118 ?_
          refine lv_iload_n hx hb d_MO_keepRegister_119 rfl (lv_at hl 1 rfl) ?_
          refine cx_bipush hx hb d_MO_keepRegister_120 rfl ?_
          refine cx_idiv hx hb d_MO_keepRegister_122 (by omega) (by omega) ?_
          refine cx_bipush hx hb d_MO_keepRegister_123 rfl ?_
          refine cx_irem hx hb d_MO_keepRegister_125 (by omega) (by omega) ?_
          refine cx_cI (ws2 := fun _ => moW T q n (fu (x 0) ((x 12 0) - 2) (wrt ((v / 100) % 10) + 16 * ((v / 1000) % 4))) (x 1) (mkF (x 2) (x 18 0)) (cdF (x 2) (x 18 0)) (x 3) (x 4) (x 11 0) (x 12 0) (x 13 0) (x 14 0) (x 15 0) (x 16 0) (x 17 0) (x 18 0) (x 19 0) (x 20 0) (x 21 0) (x 22 0) (y 31 0) (y 32 0) (y 33 0) (y 34 0) (y 35 0) (y 36 0) (y 37) (y 38) (y 39)) (cx_rS (rest := [.int (iI ((x 12 0) - 1)), .ref (q 21)]) (As := [.int (iI ((v / 10) % 10))]) hx hb hml hown hT hK hN hP hD hl.1 tw_804 k_MO_digit (c_MO_digit l D T H.size ((v / 10) % 10) (by omega)) ⟨by decide, by decide⟩ ⟨rfl, rfl⟩ [] (by decide) rfl rfl rfl (Nat.le_of_ble_eq_true rfl) ⟨Nat.zero_le _, Nat.zero_le _⟩ d_MO_keepRegister_126) hP hD hS hA [] [0, 1, 2, 3, 4, 5, 6, 7, 8, 9] [0, 1, 2, 3, 4, 5, 6, 7, 8, 9] rfl (wr := [(q 20, .inr (5, [.int (iI (y 31 0)), .int (iI ((n : Int))), .ref (q 21), .ref (q 22), .int (iI (x 11 0)), .int (iI (x 12 0)), .int (iI (x 13 0)), .int (iI (x 14 0)), .int (iI (x 15 0)), .int (iI (x 16 0)), .int (iI (x 21 0)), .int (iI (x 22 0)), .int (iI (y 32 0)), .int (iI (y 33 0)), .int (iI (y 34 0)), .int (iI (y 35 0)), .int (iI (y 36 0)), .ref (q 23), .int (iI (x 18 0)), .int (iI (x 17 0)), .ref (q 24), .int (iI (x 19 0)), .ref (q 25), .int (iI (x 20 0)), .ref (q 26), .ref (q 27), .ref (q 28), .ref (q 29)])), (q 21, .inl (T 1, 2000, .inl (fun jj : Nat => (iF (fu (x 0) ((x 12 0) - 2) (wrt ((v / 100) % 10) + 16 * ((v / 1000) % 4)))) (jj : Int)))), (q 22, .inl (T 2, 2000, .inl (fun jj : Nat => (iF (x 1)) (jj : Int)))), (q 23, .inl (T 1, 80, .inl (fun jj : Nat => (iF (mkF (x 2) (x 18 0))) (jj : Int)))), (q 24, .inl (T 1, 1600, .inl (fun jj : Nat => (iF (cdF (x 2) (x 18 0))) (jj : Int)))), (q 25, .inl (T 1, 5280, .inl (fun jj : Nat => (iF (x 3)) (jj : Int)))), (q 26, .inl (T 1, 1600, .inl (fun jj : Nat => (iF (x 4)) (jj : Int)))), (q 27, .inl (T 0, 2000, .inl (fun jj : Nat => (iF (y 37)) (jj : Int)))), (q 28, .inl (T 0, 2000, .inl (fun jj : Nat => (iF (y 38)) (jj : Int)))), (q 29, .inl (T 1, 2000, .inl (fun jj : Nat => (iF (y 39)) (jj : Int))))]) rfl (by decide) (by decide) (fun _ => rfl) (by decide) (fun r u_ H locs hq126 hP hD hS => ?_)
          subst hq126
          refine lv_i2b (v := iI (wrt ((v / 10) % 10))) hx hb d_MO_keepRegister_129 (i2b_ok (by omega)) ?_
          refine cx_bast (g := iF (fu (x 0) ((x 12 0) - 2) (wrt ((v / 100) % 10) + 16 * ((v / 1000) % 4)))) (g' := iF (fu (fu (x 0) ((x 12 0) - 2) (wrt ((v / 100) % 10) + 16 * ((v / 1000) % 4))) ((x 12 0) - 1) (wrt ((v / 10) % 10)))) hx hb hK hP hD hS 1 1 rfl rfl (by omega) (by omega) (by omega) (fun j => iF_put j) d_MO_keepRegister_130 (fun H locs hP hD hS => ?_)
          have hP : va_P D vwCl (moW T q n (fu (fu (x 0) ((x 12 0) - 2) (wrt ((v / 100) % 10) + 16 * ((v / 1000) % 4))) ((x 12 0) - 1) (wrt ((v / 10) % 10))) (x 1) (mkF (x 2) (x 18 0)) (cdF (x 2) (x 18 0)) (x 3) (x 4) (x 11 0) (x 12 0) (x 13 0) (x 14 0) (x 15 0) (x 16 0) (x 17 0) (x 18 0) (x 19 0) (x 20 0) (x 21 0) (x 22 0) (y 31 0) (y 32 0) (y 33 0) (y 34 0) (y 35 0) (y 36 0) (y 37) (y 38) (y 39)) H := hP
          have hD : va_D A (moW T q n (fu (fu (x 0) ((x 12 0) - 2) (wrt ((v / 100) % 10) + 16 * ((v / 1000) % 4))) ((x 12 0) - 1) (wrt ((v / 10) % 10))) (x 1) (mkF (x 2) (x 18 0)) (cdF (x 2) (x 18 0)) (x 3) (x 4) (x 11 0) (x 12 0) (x 13 0) (x 14 0) (x 15 0) (x 16 0) (x 17 0) (x 18 0) (x 19 0) (x 20 0) (x 21 0) (x 22 0) (y 31 0) (y 32 0) (y 33 0) (y 34 0) (y 35 0) (y 36 0) (y 37) (y 38) (y 39)) := hD
          have hC : okC (fu (fu (x 0) ((x 12 0) - 2) (wrt ((v / 100) % 10) + 16 * ((v / 1000) % 4))) ((x 12 0) - 1) (wrt ((v / 10) % 10))) (x 1) := okC_fu hC (by omega)
          refine lv_aload_n hx hb d_MO_keepRegister_131 rfl (lv_at hl 2 rfl) ?_
          refine va_get (D := D) (ci := 5) (v := .ref (q 21)) (C := R_MO) (T := T_MO) (N := 28) hx hb hT lays_MO hown hK hP 0 rfl rfl 2 (by decide) (hT _ tw_638) (fun _ h9 => h9) rfl d_MO_keepRegister_132 ?_
          refine lv_aload_n hx hb d_MO_keepRegister_135 rfl (lv_at hl 2 rfl) ?_
          refine va_get (D := D) (ci := 5) (v := .int (iI (x 12 0))) (C := R_MO) (T := T_MO) (N := 28) hx hb hT lays_MO hown hK hP 0 rfl rfl 5 (by decide) (hT _ tw_641) (fun _ h9 => h9) rfl d_MO_keepRegister_136 ?_
          refine lv_iload_n hx hb d_MO_keepRegister_139 rfl (lv_at hl 1 rfl) ?_
          refine cx_bipush hx hb d_MO_keepRegister_140 rfl ?_
          refine cx_irem hx hb d_MO_keepRegister_142 (by omega) (by omega) ?_
          refine cx_cI (ws2 := fun _ => moW T q n (fu (fu (x 0) ((x 12 0) - 2) (wrt ((v / 100) % 10) + 16 * ((v / 1000) % 4))) ((x 12 0) - 1) (wrt ((v / 10) % 10))) (x 1) (mkF (x 2) (x 18 0)) (cdF (x 2) (x 18 0)) (x 3) (x 4) (x 11 0) (x 12 0) (x 13 0) (x 14 0) (x 15 0) (x 16 0) (x 17 0) (x 18 0) (x 19 0) (x 20 0) (x 21 0) (x 22 0) (y 31 0) (y 32 0) (y 33 0) (y 34 0) (y 35 0) (y 36 0) (y 37) (y 38) (y 39)) (cx_rS (rest := [.int (iI (x 12 0)), .ref (q 21)]) (As := [.int (iI (v % 10))]) hx hb hml hown hT hK hN hP hD hl.1 tw_804 k_MO_digit (c_MO_digit l D T H.size (v % 10) (by omega)) ⟨by decide, by decide⟩ ⟨rfl, rfl⟩ [] (by decide) rfl rfl rfl (Nat.le_of_ble_eq_true rfl) ⟨Nat.zero_le _, Nat.zero_le _⟩ d_MO_keepRegister_143) hP hD hS hA [] [0, 1, 2, 3, 4, 5, 6, 7, 8, 9] [0, 1, 2, 3, 4, 5, 6, 7, 8, 9] rfl (wr := [(q 20, .inr (5, [.int (iI (y 31 0)), .int (iI ((n : Int))), .ref (q 21), .ref (q 22), .int (iI (x 11 0)), .int (iI (x 12 0)), .int (iI (x 13 0)), .int (iI (x 14 0)), .int (iI (x 15 0)), .int (iI (x 16 0)), .int (iI (x 21 0)), .int (iI (x 22 0)), .int (iI (y 32 0)), .int (iI (y 33 0)), .int (iI (y 34 0)), .int (iI (y 35 0)), .int (iI (y 36 0)), .ref (q 23), .int (iI (x 18 0)), .int (iI (x 17 0)), .ref (q 24), .int (iI (x 19 0)), .ref (q 25), .int (iI (x 20 0)), .ref (q 26), .ref (q 27), .ref (q 28), .ref (q 29)])), (q 21, .inl (T 1, 2000, .inl (fun jj : Nat => (iF (fu (fu (x 0) ((x 12 0) - 2) (wrt ((v / 100) % 10) + 16 * ((v / 1000) % 4))) ((x 12 0) - 1) (wrt ((v / 10) % 10)))) (jj : Int)))), (q 22, .inl (T 2, 2000, .inl (fun jj : Nat => (iF (x 1)) (jj : Int)))), (q 23, .inl (T 1, 80, .inl (fun jj : Nat => (iF (mkF (x 2) (x 18 0))) (jj : Int)))), (q 24, .inl (T 1, 1600, .inl (fun jj : Nat => (iF (cdF (x 2) (x 18 0))) (jj : Int)))), (q 25, .inl (T 1, 5280, .inl (fun jj : Nat => (iF (x 3)) (jj : Int)))), (q 26, .inl (T 1, 1600, .inl (fun jj : Nat => (iF (x 4)) (jj : Int)))), (q 27, .inl (T 0, 2000, .inl (fun jj : Nat => (iF (y 37)) (jj : Int)))), (q 28, .inl (T 0, 2000, .inl (fun jj : Nat => (iF (y 38)) (jj : Int)))), (q 29, .inl (T 1, 2000, .inl (fun jj : Nat => (iF (y 39)) (jj : Int))))]) rfl (by decide) (by decide) (fun _ => rfl) (by decide) (fun r u_ H locs hq143 hP hD hS => ?_)
          subst hq143
          refine lv_iload_n hx hb d_MO_keepRegister_146 rfl (lv_at hl 0 rfl) ?_
          refine cx_iconst hx hb d_MO_keepRegister_147 ?_
          refine lv_ishr hx hb d_MO_keepRegister_148 ?_
          refine cx_eq ((qb_all hq0).2.2.2.1) ?_
          refine cx_iconst hx hb d_MO_keepRegister_149 ?_
          refine lv_iand hx hb d_MO_keepRegister_150 ?_
          refine cx_eq ((qb_all hq0).2.2.2.2.1) ?_
          refine cx_bipush hx hb d_MO_keepRegister_151 rfl ?_
          refine cx_imul hx hb d_MO_keepRegister_153 ?_
          refine lv_ior hx hb d_MO_keepRegister_154 ?_
          refine cx_eq (bt_zd (by omega) (by omega)) ?_
          refine lv_iload_n hx hb d_MO_keepRegister_155 rfl (lv_at hl 0 rfl) ?_
          refine cx_iconst hx hb d_MO_keepRegister_156 ?_
          refine lv_ishr hx hb d_MO_keepRegister_157 ?_
          refine cx_eq ((qb_all hq0).2.2.2.2.2.1) ?_
          refine cx_iconst hx hb d_MO_keepRegister_158 ?_
          refine lv_iand hx hb d_MO_keepRegister_159 ?_
          refine cx_eq ((qb_all hq0).2.2.2.2.2.2) ?_
          refine cx_bipush hx hb d_MO_keepRegister_160 rfl ?_
          refine cx_imul hx hb d_MO_keepRegister_162 ?_
          refine lv_ior hx hb d_MO_keepRegister_163 ?_
          refine cx_eq (bt_q2 (by omega) (by omega)) ?_
          refine lv_i2b (v := iI (wrt (v % 10) + 16 * ((v / 1000) / 4))) hx hb d_MO_keepRegister_164 (i2b_ok (by omega)) ?_
          refine cx_bast (g := iF (fu (fu (x 0) ((x 12 0) - 2) (wrt ((v / 100) % 10) + 16 * ((v / 1000) % 4))) ((x 12 0) - 1) (wrt ((v / 10) % 10)))) (g' := iF (fu (fu (fu (x 0) ((x 12 0) - 2) (wrt ((v / 100) % 10) + 16 * ((v / 1000) % 4))) ((x 12 0) - 1) (wrt ((v / 10) % 10))) (x 12 0) (wrt (v % 10) + 16 * ((v / 1000) / 4)))) hx hb hK hP hD hS 1 1 rfl rfl (by omega) (by omega) (by omega) (fun j => iF_put j) d_MO_keepRegister_165 (fun H locs hP hD hS => ?_)
          have hP : va_P D vwCl (moW T q n (fu (fu (fu (x 0) ((x 12 0) - 2) (wrt ((v / 100) % 10) + 16 * ((v / 1000) % 4))) ((x 12 0) - 1) (wrt ((v / 10) % 10))) (x 12 0) (wrt (v % 10) + 16 * ((v / 1000) / 4))) (x 1) (mkF (x 2) (x 18 0)) (cdF (x 2) (x 18 0)) (x 3) (x 4) (x 11 0) (x 12 0) (x 13 0) (x 14 0) (x 15 0) (x 16 0) (x 17 0) (x 18 0) (x 19 0) (x 20 0) (x 21 0) (x 22 0) (y 31 0) (y 32 0) (y 33 0) (y 34 0) (y 35 0) (y 36 0) (y 37) (y 38) (y 39)) H := hP
          have hD : va_D A (moW T q n (fu (fu (fu (x 0) ((x 12 0) - 2) (wrt ((v / 100) % 10) + 16 * ((v / 1000) % 4))) ((x 12 0) - 1) (wrt ((v / 10) % 10))) (x 12 0) (wrt (v % 10) + 16 * ((v / 1000) / 4))) (x 1) (mkF (x 2) (x 18 0)) (cdF (x 2) (x 18 0)) (x 3) (x 4) (x 11 0) (x 12 0) (x 13 0) (x 14 0) (x 15 0) (x 16 0) (x 17 0) (x 18 0) (x 19 0) (x 20 0) (x 21 0) (x 22 0) (y 31 0) (y 32 0) (y 33 0) (y 34 0) (y 35 0) (y 36 0) (y 37) (y 38) (y 39)) := hD
          have hC : okC (fu (fu (fu (x 0) ((x 12 0) - 2) (wrt ((v / 100) % 10) + 16 * ((v / 1000) % 4))) ((x 12 0) - 1) (wrt ((v / 10) % 10))) (x 12 0) (wrt (v % 10) + 16 * ((v / 1000) / 4))) (x 1) := okC_fu hC (by omega)
          refine lv_aload_n hx hb d_MO_keepRegister_166 rfl (lv_at hl 2 rfl) ?_
          refine lv_dup hx hb d_MO_keepRegister_167 rfl ?_
          refine va_get (D := D) (ci := 5) (v := .int (iI (x 12 0))) (C := R_MO) (T := T_MO) (N := 28) hx hb hT lays_MO hown hK hP 0 rfl rfl 5 (by decide) (hT _ tw_641) (fun _ h9 => h9) rfl d_MO_keepRegister_168 ?_
          refine cx_iconst hx hb d_MO_keepRegister_171 ?_
          refine cx_isub hx hb d_MO_keepRegister_172 ?_
          refine va_put (D := D) (ci := 5) (v := .int (iI ((x 12 0) - 3))) (ty := .int) (C := R_MO) (T := T_MO) (N := 28) hx hb hT lays_MO t_MO t_MO_ok n_MO hown hK hP hD hS 0 rfl rfl 5 (by decide) (hT _ tw_641) (fun _ h9 => h9) rfl (by decide +kernel) rfl rfl (Nat.le_of_ble_eq_true rfl) d_MO_keepRegister_173 (fun H locs hP hD hS => ?_)
          have hP : va_P D vwCl (moW T q n (fu (fu (fu (x 0) ((x 12 0) - 2) (wrt ((v / 100) % 10) + 16 * ((v / 1000) % 4))) ((x 12 0) - 1) (wrt ((v / 10) % 10))) (x 12 0) (wrt (v % 10) + 16 * ((v / 1000) / 4))) (x 1) (mkF (x 2) (x 18 0)) (cdF (x 2) (x 18 0)) (x 3) (x 4) (x 11 0) ((x 12 0) - 3) (x 13 0) (x 14 0) (x 15 0) (x 16 0) (x 17 0) (x 18 0) (x 19 0) (x 20 0) (x 21 0) (x 22 0) (y 31 0) (y 32 0) (y 33 0) (y 34 0) (y 35 0) (y 36 0) (y 37) (y 38) (y 39)) H := hP
          have hD : va_D A (moW T q n (fu (fu (fu (x 0) ((x 12 0) - 2) (wrt ((v / 100) % 10) + 16 * ((v / 1000) % 4))) ((x 12 0) - 1) (wrt ((v / 10) % 10))) (x 12 0) (wrt (v % 10) + 16 * ((v / 1000) / 4))) (x 1) (mkF (x 2) (x 18 0)) (cdF (x 2) (x 18 0)) (x 3) (x 4) (x 11 0) ((x 12 0) - 3) (x 13 0) (x 14 0) (x 15 0) (x 16 0) (x 17 0) (x 18 0) (x 19 0) (x 20 0) (x 21 0) (x 22 0) (y 31 0) (y 32 0) (y 33 0) (y 34 0) (y 35 0) (y 36 0) (y 37) (y 38) (y 39)) := hD
          refine lv_aload_n hx hb d_MO_keepRegister_176 rfl (lv_at hl 2 rfl) ?_
          refine lv_aload_n hx hb d_MO_keepRegister_177 rfl (lv_at hl 2 rfl) ?_
          refine va_get (D := D) (ci := 5) (v := .int (iI (y 36 0))) (C := R_MO) (T := T_MO) (N := 28) hx hb hT lays_MO hown hK hP 0 rfl rfl 16 (by decide) (hT _ tw_652) (fun _ h9 => h9) rfl d_MO_keepRegister_178 ?_
          refine va_put (D := D) (ci := 5) (v := .int (iI (y 36 0))) (ty := .int) (C := R_MO) (T := T_MO) (N := 28) hx hb hT lays_MO t_MO t_MO_ok n_MO hown hK hP hD hS 0 rfl rfl 6 (by decide) (hT _ tw_642) (fun _ h9 => h9) rfl (by decide +kernel) rfl rfl (Nat.le_of_ble_eq_true rfl) d_MO_keepRegister_181 (fun H locs hP hD hS => ?_)
          have hP : va_P D vwCl (moW T q n (fu (fu (fu (x 0) ((x 12 0) - 2) (wrt ((v / 100) % 10) + 16 * ((v / 1000) % 4))) ((x 12 0) - 1) (wrt ((v / 10) % 10))) (x 12 0) (wrt (v % 10) + 16 * ((v / 1000) / 4))) (x 1) (mkF (x 2) (x 18 0)) (cdF (x 2) (x 18 0)) (x 3) (x 4) (x 11 0) ((x 12 0) - 3) (y 36 0) (x 14 0) (x 15 0) (x 16 0) (x 17 0) (x 18 0) (x 19 0) (x 20 0) (x 21 0) (x 22 0) (y 31 0) (y 32 0) (y 33 0) (y 34 0) (y 35 0) (y 36 0) (y 37) (y 38) (y 39)) H := hP
          have hD : va_D A (moW T q n (fu (fu (fu (x 0) ((x 12 0) - 2) (wrt ((v / 100) % 10) + 16 * ((v / 1000) % 4))) ((x 12 0) - 1) (wrt ((v / 10) % 10))) (x 12 0) (wrt (v % 10) + 16 * ((v / 1000) / 4))) (x 1) (mkF (x 2) (x 18 0)) (cdF (x 2) (x 18 0)) (x 3) (x 4) (x 11 0) ((x 12 0) - 3) (y 36 0) (x 14 0) (x 15 0) (x 16 0) (x 17 0) (x 18 0) (x 19 0) (x 20 0) (x 21 0) (x 22 0) (y 31 0) (y 32 0) (y 33 0) (y 34 0) (y 35 0) (y 36 0) (y 37) (y 38) (y 39)) := hD
          have hP : va_P D vwCl (moW T q n (fu (fu (fu (x 0) ((x 12 0) - 2) (wrt ((v / 100) % 10) + 16 * ((v / 1000) % 4))) ((x 12 0) - 1) (wrt ((v / 10) % 10))) (x 12 0) (wrt (v % 10) + 16 * ((v / 1000) / 4))) (x 1) (mkF (x 2) (x 18 0)) (cdF (x 2) (x 18 0)) (x 3) (x 4) (x 11 0) ((x 12 0) - 3) (x 13 0) (x 14 0) (x 15 0) (x 16 0) (x 17 0) (x 18 0) (x 19 0) (x 20 0) (x 21 0) (x 22 0) (y 31 0) (y 32 0) (y 33 0) (y 34 0) (y 35 0) (y 36 0) (y 37) (y 38) (y 39)) H := by rw [← hB]; exact hP
          have hD : va_D A (moW T q n (fu (fu (fu (x 0) ((x 12 0) - 2) (wrt ((v / 100) % 10) + 16 * ((v / 1000) % 4))) ((x 12 0) - 1) (wrt ((v / 10) % 10))) (x 12 0) (wrt (v % 10) + 16 * ((v / 1000) / 4))) (x 1) (mkF (x 2) (x 18 0)) (cdF (x 2) (x 18 0)) (x 3) (x 4) (x 11 0) ((x 12 0) - 3) (x 13 0) (x 14 0) (x 15 0) (x 16 0) (x 17 0) (x 18 0) (x 19 0) (x 20 0) (x 21 0) (x 22 0) (y 31 0) (y 32 0) (y 33 0) (y 34 0) (y 35 0) (y 36 0) (y 37) (y 38) (y 39)) := by rw [← hB]; exact hD
          refine cx_iconst hx hb d_MO_keepRegister_184 ?_
          exact hret ((up (up x 0 (fu (fu (fu (x 0) ((x 12 0) - 2) (wrt ((v / 100) % 10) + 16 * ((v / 1000) % 4))) ((x 12 0) - 1) (wrt ((v / 10) % 10))) (x 12 0) (wrt (v % 10) + 16 * ((v / 1000) / 4)))) 12 (cst ((x 12 0) - 3)), y) : SX × SX) (⟨pst_of (by unfold staS wad; rw [if_pos (by omega), show (if y 32 0 = 40 then y 35 0 else y 36 0) = v46 by split <;> omega, ← hv]) (show okX (up (up x 0 (fu (fu (fu (x 0) ((x 12 0) - 2) (wrt ((v / 100) % 10) + 16 * ((v / 1000) % 4))) ((x 12 0) - 1) (wrt ((v / 10) % 10))) (x 12 0) (wrt (v % 10) + 16 * ((v / 1000) / 4)))) 12 (cst ((x 12 0) - 3))) from ⟨hC, (show okR (x 11 0) ((x 12 0) - 3) (x 13 0) (x 14 0) (x 15 0) (x 16 0) (x 17 0) (x 18 0) (x 19 0) (x 20 0) by have h8 := hX.2.1; unfold okR at h8 ⊢; omega), hX.2.2⟩), ⟨rfl, rfl⟩⟩) hP hD hS d_MO_keepRegister_185
        · obtain rfl : v46 = -1 := by omega
          refine lv_irem hx hb d_MO_keepRegister_49 (by decide) ?_
          refine cx_eq (show iI (-1) - iI (-1) / iI 16000 * iI 16000 = iI (-1) by decide +kernel) ?_
          refine lv_istore_n (lv' := [(1, .int (iI (-1))), (0, .ref (q 20))]) hx hb d_MO_keepRegister_50 rfl hl (by decide) rfl (fun ls hl => ?_)
          refine lv_iload_n hx hb d_MO_keepRegister_51 rfl (lv_at hl 0 rfl) ?_
          refine cx_if_ge (tgt := 63) hx hb d_MO_keepRegister_52 rfl (by omega) (fun h0 => absurd h0 (by decide)) (fun _ => ?_)
          refine lv_iload_n hx hb d_MO_keepRegister_55 rfl (lv_at hl 0 rfl) ?_
          refine cx_sipush hx hb d_MO_keepRegister_56 rfl ?_
          refine cx_iadd hx hb d_MO_keepRegister_59 ?_
          refine lv_goto (tgt := 64) hx hb d_MO_keepRegister_60 rfl ?_
          obtain ⟨v, hv⟩ : ∃ z : Int, z = -1 % 16000 := ⟨_, rfl⟩
          refine cx_eq (show iI ((-1) + 16000) = iI v from by rw [hv]; rfl) ?_
          have hv1 : 0 ≤ v ∧ v < 16000 := by omega
          have hw1 := wrt_in (v := (v / 100) % 10) (by omega)
          have hw2 := wrt_in (v := (v / 10) % 10) (by omega)
          have hw3 := wrt_in (v := v % 10) (by omega)
          have hq0 : 0 ≤ v / 1000 ∧ v / 1000 < 16 := by omega
          refine lv_istore_n (lv' := [(1, .int (iI (v))), (0, .ref (q 20))]) hx hb d_MO_keepRegister_64 rfl hl (by decide) rfl (fun ls hl => ?_)
          refine lv_iload_n hx hb d_MO_keepRegister_65 rfl (lv_at hl 0 rfl) ?_
          refine cx_sipush hx hb d_MO_keepRegister_66 rfl ?_
          refine cx_idiv hx hb d_MO_keepRegister_69 (by omega) (by omega) ?_
          refine lv_istore_n (lv' := [(2, .int (iI (v / 1000))), (1, .int (iI (v))), (0, .ref (q 20))]) hx hb d_MO_keepRegister_70 rfl hl (by decide) rfl (fun ls hl => ?_)
          refine lv_aload_n hx hb d_MO_keepRegister_71 rfl (lv_at hl 2 rfl) ?_
          refine va_get (D := D) (ci := 5) (v := .ref (q 21)) (C := R_MO) (T := T_MO) (N := 28) hx hb hT lays_MO hown hK hP 0 rfl rfl 2 (by decide) (hT _ tw_638) (fun _ h9 => h9) rfl d_MO_keepRegister_72 ?_
          refine lv_aload_n hx hb d_MO_keepRegister_75 rfl (lv_at hl 2 rfl) ?_
          refine va_get (D := D) (ci := 5) (v := .int (iI (x 12 0))) (C := R_MO) (T := T_MO) (N := 28) hx hb hT lays_MO hown hK hP 0 rfl rfl 5 (by decide) (hT _ tw_641) (fun _ h9 => h9) rfl d_MO_keepRegister_76 ?_
          refine cx_iconst hx hb d_MO_keepRegister_79 ?_
          refine cx_isub hx hb d_MO_keepRegister_80 ?_
          refine lv_iload_n hx hb d_MO_keepRegister_81 rfl (lv_at hl 1 rfl) ?_
          refine cx_bipush hx hb d_MO_keepRegister_82 rfl ?_
          refine cx_idiv hx hb d_MO_keepRegister_84 (by omega) (by omega) ?_
          refine cx_bipush hx hb d_MO_keepRegister_85 rfl ?_
          refine cx_irem hx hb d_MO_keepRegister_87 (by omega) (by omega) ?_
          refine cx_cI (ws2 := fun _ => moW T q n (x 0) (x 1) (mkF (x 2) (x 18 0)) (cdF (x 2) (x 18 0)) (x 3) (x 4) (x 11 0) (x 12 0) (x 13 0) (x 14 0) (x 15 0) (x 16 0) (x 17 0) (x 18 0) (x 19 0) (x 20 0) (x 21 0) (x 22 0) (y 31 0) (y 32 0) (y 33 0) (y 34 0) (y 35 0) (y 36 0) (y 37) (y 38) (y 39)) (cx_rS (rest := [.int (iI ((x 12 0) - 2)), .ref (q 21)]) (As := [.int (iI ((v / 100) % 10))]) hx hb hml hown hT hK hN hP hD hl.1 tw_804 k_MO_digit (c_MO_digit l D T H.size ((v / 100) % 10) (by omega)) ⟨by decide, by decide⟩ ⟨rfl, rfl⟩ [] (by decide) rfl rfl rfl (Nat.le_of_ble_eq_true rfl) ⟨Nat.zero_le _, Nat.zero_le _⟩ d_MO_keepRegister_88) hP hD hS hA [] [0, 1, 2, 3, 4, 5, 6, 7, 8, 9] [0, 1, 2, 3, 4, 5, 6, 7, 8, 9] rfl (wr := [(q 20, .inr (5, [.int (iI (y 31 0)), .int (iI ((n : Int))), .ref (q 21), .ref (q 22), .int (iI (x 11 0)), .int (iI (x 12 0)), .int (iI (x 13 0)), .int (iI (x 14 0)), .int (iI (x 15 0)), .int (iI (x 16 0)), .int (iI (x 21 0)), .int (iI (x 22 0)), .int (iI (y 32 0)), .int (iI (y 33 0)), .int (iI (y 34 0)), .int (iI (y 35 0)), .int (iI (y 36 0)), .ref (q 23), .int (iI (x 18 0)), .int (iI (x 17 0)), .ref (q 24), .int (iI (x 19 0)), .ref (q 25), .int (iI (x 20 0)), .ref (q 26), .ref (q 27), .ref (q 28), .ref (q 29)])), (q 21, .inl (T 1, 2000, .inl (fun jj : Nat => (iF (x 0)) (jj : Int)))), (q 22, .inl (T 2, 2000, .inl (fun jj : Nat => (iF (x 1)) (jj : Int)))), (q 23, .inl (T 1, 80, .inl (fun jj : Nat => (iF (mkF (x 2) (x 18 0))) (jj : Int)))), (q 24, .inl (T 1, 1600, .inl (fun jj : Nat => (iF (cdF (x 2) (x 18 0))) (jj : Int)))), (q 25, .inl (T 1, 5280, .inl (fun jj : Nat => (iF (x 3)) (jj : Int)))), (q 26, .inl (T 1, 1600, .inl (fun jj : Nat => (iF (x 4)) (jj : Int)))), (q 27, .inl (T 0, 2000, .inl (fun jj : Nat => (iF (y 37)) (jj : Int)))), (q 28, .inl (T 0, 2000, .inl (fun jj : Nat => (iF (y 38)) (jj : Int)))), (q 29, .inl (T 1, 2000, .inl (fun jj : Nat => (iF (y 39)) (jj : Int))))]) rfl (by decide) (by decide) (fun _ => rfl) (by decide) (fun r u_ H locs hq88 hP hD hS => ?_)
          subst hq88
          refine lv_iload_n hx hb d_MO_keepRegister_91 rfl (lv_at hl 0 rfl) ?_
          refine cx_iconst hx hb d_MO_keepRegister_92 ?_
          refine lv_iand hx hb d_MO_keepRegister_93 ?_
          refine cx_eq ((qb_all hq0).1) ?_
          refine cx_bipush hx hb d_MO_keepRegister_94 rfl ?_
          refine cx_imul hx hb d_MO_keepRegister_96 ?_
          refine lv_ior hx hb d_MO_keepRegister_97 ?_
          refine cx_eq (bt_zd (by omega) (by omega)) ?_
          refine lv_iload_n hx hb d_MO_keepRegister_98 rfl (lv_at hl 0 rfl) ?_
          refine cx_iconst hx hb d_MO_keepRegister_99 ?_
          refine lv_ishr hx hb d_MO_keepRegister_100 ?_
          refine cx_eq ((qb_all hq0).2.1) ?_
          refine cx_iconst hx hb d_MO_keepRegister_101 ?_
          refine lv_iand hx hb d_MO_keepRegister_102 ?_
          refine cx_eq ((qb_all hq0).2.2.1) ?_
          refine cx_bipush hx hb d_MO_keepRegister_103 rfl ?_
          refine cx_imul hx hb d_MO_keepRegister_105 ?_
          refine lv_ior hx hb d_MO_keepRegister_106 ?_
          refine cx_eq (bt_q1 (by omega) (by omega)) ?_
          refine lv_i2b (v := iI (wrt ((v / 100) % 10) + 16 * ((v / 1000) % 4))) hx hb d_MO_keepRegister_107 (i2b_ok (by omega)) ?_
          refine cx_bast (g := iF (x 0)) (g' := iF (fu (x 0) ((x 12 0) - 2) (wrt ((v / 100) % 10) + 16 * ((v / 1000) % 4)))) hx hb hK hP hD hS 1 1 rfl rfl (by omega) (by omega) (by omega) (fun j => iF_put j) d_MO_keepRegister_108 (fun H locs hP hD hS => ?_)
          have hP : va_P D vwCl (moW T q n (fu (x 0) ((x 12 0) - 2) (wrt ((v / 100) % 10) + 16 * ((v / 1000) % 4))) (x 1) (mkF (x 2) (x 18 0)) (cdF (x 2) (x 18 0)) (x 3) (x 4) (x 11 0) (x 12 0) (x 13 0) (x 14 0) (x 15 0) (x 16 0) (x 17 0) (x 18 0) (x 19 0) (x 20 0) (x 21 0) (x 22 0) (y 31 0) (y 32 0) (y 33 0) (y 34 0) (y 35 0) (y 36 0) (y 37) (y 38) (y 39)) H := hP
          have hD : va_D A (moW T q n (fu (x 0) ((x 12 0) - 2) (wrt ((v / 100) % 10) + 16 * ((v / 1000) % 4))) (x 1) (mkF (x 2) (x 18 0)) (cdF (x 2) (x 18 0)) (x 3) (x 4) (x 11 0) (x 12 0) (x 13 0) (x 14 0) (x 15 0) (x 16 0) (x 17 0) (x 18 0) (x 19 0) (x 20 0) (x 21 0) (x 22 0) (y 31 0) (y 32 0) (y 33 0) (y 34 0) (y 35 0) (y 36 0) (y 37) (y 38) (y 39)) := hD
          have hC : okC (fu (x 0) ((x 12 0) - 2) (wrt ((v / 100) % 10) + 16 * ((v / 1000) % 4))) (x 1) := okC_fu hC (by omega)
          refine lv_aload_n hx hb d_MO_keepRegister_109 rfl (lv_at hl 2 rfl) ?_
          refine va_get (D := D) (ci := 5) (v := .ref (q 21)) (C := R_MO) (T := T_MO) (N := 28) hx hb hT lays_MO hown hK hP 0 rfl rfl 2 (by decide) (hT _ tw_638) (fun _ h9 => h9) rfl d_MO_keepRegister_110 ?_
          refine lv_aload_n hx hb d_MO_keepRegister_113 rfl (lv_at hl 2 rfl) ?_
          refine va_get (D := D) (ci := 5) (v := .int (iI (x 12 0))) (C := R_MO) (T := T_MO) (N := 28) hx hb hT lays_MO hown hK hP 0 rfl rfl 5 (by decide) (hT _ tw_641) (fun _ h9 => h9) rfl d_MO_keepRegister_114 ?_
          refine cx_iconst hx hb d_MO_keepRegister_117 ?_
          refine cx_isub hx hb d_MO_keepRegister_118 ?_
          refine lv_iload_n hx hb d_MO_keepRegister_119 rfl (lv_at hl 1 rfl) ?_
          refine cx_bipush hx hb d_MO_keepRegister_120 rfl ?_
          refine cx_idiv hx hb d_MO_keepRegister_122 (by omega) (by omega) ?_
          refine cx_bipush hx hb d_MO_keepRegister_123 rfl ?_
          refine cx_irem hx hb d_MO_keepRegister_125 (by omega) (by omega) ?_
          refine cx_cI (ws2 := fun _ => moW T q n (fu (x 0) ((x 12 0) - 2) (wrt ((v / 100) % 10) + 16 * ((v / 1000) % 4))) (x 1) (mkF (x 2) (x 18 0)) (cdF (x 2) (x 18 0)) (x 3) (x 4) (x 11 0) (x 12 0) (x 13 0) (x 14 0) (x 15 0) (x 16 0) (x 17 0) (x 18 0) (x 19 0) (x 20 0) (x 21 0) (x 22 0) (y 31 0) (y 32 0) (y 33 0) (y 34 0) (y 35 0) (y 36 0) (y 37) (y 38) (y 39)) (cx_rS (rest := [.int (iI ((x 12 0) - 1)), .ref (q 21)]) (As := [.int (iI ((v / 10) % 10))]) hx hb hml hown hT hK hN hP hD hl.1 tw_804 k_MO_digit (c_MO_digit l D T H.size ((v / 10) % 10) (by omega)) ⟨by decide, by decide⟩ ⟨rfl, rfl⟩ [] (by decide) rfl rfl rfl (Nat.le_of_ble_eq_true rfl) ⟨Nat.zero_le _, Nat.zero_le _⟩ d_MO_keepRegister_126) hP hD hS hA [] [0, 1, 2, 3, 4, 5, 6, 7, 8, 9] [0, 1, 2, 3, 4, 5, 6, 7, 8, 9] rfl (wr := [(q 20, .inr (5, [.int (iI (y 31 0)), .int (iI ((n : Int))), .ref (q 21), .ref (q 22), .int (iI (x 11 0)), .int (iI (x 12 0)), .int (iI (x 13 0)), .int (iI (x 14 0)), .int (iI (x 15 0)), .int (iI (x 16 0)), .int (iI (x 21 0)), .int (iI (x 22 0)), .int (iI (y 32 0)), .int (iI (y 33 0)), .int (iI (y 34 0)), .int (iI (y 35 0)), .int (iI (y 36 0)), .ref (q 23), .int (iI (x 18 0)), .int (iI (x 17 0)), .ref (q 24), .int (iI (x 19 0)), .ref (q 25), .int (iI (x 20 0)), .ref (q 26), .ref (q 27), .ref (q 28), .ref (q 29)])), (q 21, .inl (T 1, 2000, .inl (fun jj : Nat => (iF (fu (x 0) ((x 12 0) - 2) (wrt ((v / 100) % 10) + 16 * ((v / 1000) % 4)))) (jj : Int)))), (q 22, .inl (T 2, 2000, .inl (fun jj : Nat => (iF (x 1)) (jj : Int)))), (q 23, .inl (T 1, 80, .inl (fun jj : Nat => (iF (mkF (x 2) (x 18 0))) (jj : Int)))), (q 24, .inl (T 1, 1600, .inl (fun jj : Nat => (iF (cdF (x 2) (x 18 0))) (jj : Int)))), (q 25, .inl (T 1, 5280, .inl (fun jj : Nat => (iF (x 3)) (jj : Int)))), (q 26, .inl (T 1, 1600, .inl (fun jj : Nat => (iF (x 4)) (jj : Int)))), (q 27, .inl (T 0, 2000, .inl (fun jj : Nat => (iF (y 37)) (jj : Int)))), (q 28, .inl (T 0, 2000, .inl (fun jj : Nat => (iF (y 38)) (jj : Int)))), (q 29, .inl (T 1, 2000, .inl (fun jj : Nat => (iF (y 39)) (jj : Int))))]) rfl (by decide) (by decide) (fun _ => rfl) (by decide) (fun r u_ H locs hq126 hP hD hS => ?_)
          subst hq126
          refine lv_i2b (v := iI (wrt ((v / 10) % 10))) hx hb d_MO_keepRegister_129 (i2b_ok (by omega)) ?_
          refine cx_bast (g := iF (fu (x 0) ((x 12 0) - 2) (wrt ((v / 100) % 10) + 16 * ((v / 1000) % 4)))) (g' := iF (fu (fu (x 0) ((x 12 0) - 2) (wrt ((v / 100) % 10) + 16 * ((v / 1000) % 4))) ((x 12 0) - 1) (wrt ((v / 10) % 10)))) hx hb hK hP hD hS 1 1 rfl rfl (by omega) (by omega) (by omega) (fun j => iF_put j) d_MO_keepRegister_130 (fun H locs hP hD hS => ?_)
          have hP : va_P D vwCl (moW T q n (fu (fu (x 0) ((x 12 0) - 2) (wrt ((v / 100) % 10) + 16 * ((v / 1000) % 4))) ((x 12 0) - 1) (wrt ((v / 10) % 10))) (x 1) (mkF (x 2) (x 18 0)) (cdF (x 2) (x 18 0)) (x 3) (x 4) (x 11 0) (x 12 0) (x 13 0) (x 14 0) (x 15 0) (x 16 0) (x 17 0) (x 18 0) (x 19 0) (x 20 0) (x 21 0) (x 22 0) (y 31 0) (y 32 0) (y 33 0) (y 34 0) (y 35 0) (y 36 0) (y 37) (y 38) (y 39)) H := hP
          have hD : va_D A (moW T q n (fu (fu (x 0) ((x 12 0) - 2) (wrt ((v / 100) % 10) + 16 * ((v / 1000) % 4))) ((x 12 0) - 1) (wrt ((v / 10) % 10))) (x 1) (mkF (x 2) (x 18 0)) (cdF (x 2) (x 18 0)) (x 3) (x 4) (x 11 0) (x 12 0) (x 13 0) (x 14 0) (x 15 0) (x 16 0) (x 17 0) (x 18 0) (x 19 0) (x 20 0) (x 21 0) (x 22 0) (y 31 0) (y 32 0) (y 33 0) (y 34 0) (y 35 0) (y 36 0) (y 37) (y 38) (y 39)) := hD
          have hC : okC (fu (fu (x 0) ((x 12 0) - 2) (wrt ((v / 100) % 10) + 16 * ((v / 1000) % 4))) ((x 12 0) - 1) (wrt ((v / 10) % 10))) (x 1) := okC_fu hC (by omega)
          refine lv_aload_n hx hb d_MO_keepRegister_131 rfl (lv_at hl 2 rfl) ?_
          refine va_get (D := D) (ci := 5) (v := .ref (q 21)) (C := R_MO) (T := T_MO) (N := 28) hx hb hT lays_MO hown hK hP 0 rfl rfl 2 (by decide) (hT _ tw_638) (fun _ h9 => h9) rfl d_MO_keepRegister_132 ?_
          refine lv_aload_n hx hb d_MO_keepRegister_135 rfl (lv_at hl 2 rfl) ?_
          refine va_get (D := D) (ci := 5) (v := .int (iI (x 12 0))) (C := R_MO) (T := T_MO) (N := 28) hx hb hT lays_MO hown hK hP 0 rfl rfl 5 (by decide) (hT _ tw_641) (fun _ h9 => h9) rfl d_MO_keepRegister_136 ?_
          refine lv_iload_n hx hb d_MO_keepRegister_139 rfl (lv_at hl 1 rfl) ?_
          refine cx_bipush hx hb d_MO_keepRegister_140 rfl ?_
          refine cx_irem hx hb d_MO_keepRegister_142 (by omega) (by omega) ?_
          refine cx_cI (ws2 := fun _ => moW T q n (fu (fu (x 0) ((x 12 0) - 2) (wrt ((v / 100) % 10) + 16 * ((v / 1000) % 4))) ((x 12 0) - 1) (wrt ((v / 10) % 10))) (x 1) (mkF (x 2) (x 18 0)) (cdF (x 2) (x 18 0)) (x 3) (x 4) (x 11 0) (x 12 0) (x 13 0) (x 14 0) (x 15 0) (x 16 0) (x 17 0) (x 18 0) (x 19 0) (x 20 0) (x 21 0) (x 22 0) (y 31 0) (y 32 0) (y 33 0) (y 34 0) (y 35 0) (y 36 0) (y 37) (y 38) (y 39)) (cx_rS (rest := [.int (iI (x 12 0)), .ref (q 21)]) (As := [.int (iI (v % 10))]) hx hb hml hown hT hK hN hP hD hl.1 tw_804 k_MO_digit (c_MO_digit l D T H.size (v % 10) (by omega)) ⟨by decide, by decide⟩ ⟨rfl, rfl⟩ [] (by decide) rfl rfl rfl (Nat.le_of_ble_eq_true rfl) ⟨Nat.zero_le _, Nat.zero_le _⟩ d_MO_keepRegister_143) hP hD hS hA [] [0, 1, 2, 3, 4, 5, 6, 7, 8, 9] [0, 1, 2, 3, 4, 5, 6, 7, 8, 9] rfl (wr := [(q 20, .inr (5, [.int (iI (y 31 0)), .int (iI ((n : Int))), .ref (q 21), .ref (q 22), .int (iI (x 11 0)), .int (iI (x 12 0)), .int (iI (x 13 0)), .int (iI (x 14 0)), .int (iI (x 15 0)), .int (iI (x 16 0)), .int (iI (x 21 0)), .int (iI (x 22 0)), .int (iI (y 32 0)), .int (iI (y 33 0)), .int (iI (y 34 0)), .int (iI (y 35 0)), .int (iI (y 36 0)), .ref (q 23), .int (iI (x 18 0)), .int (iI (x 17 0)), .ref (q 24), .int (iI (x 19 0)), .ref (q 25), .int (iI (x 20 0)), .ref (q 26), .ref (q 27), .ref (q 28), .ref (q 29)])), (q 21, .inl (T 1, 2000, .inl (fun jj : Nat => (iF (fu (fu (x 0) ((x 12 0) - 2) (wrt ((v / 100) % 10) + 16 * ((v / 1000) % 4))) ((x 12 0) - 1) (wrt ((v / 10) % 10)))) (jj : Int)))), (q 22, .inl (T 2, 2000, .inl (fun jj : Nat => (iF (x 1)) (jj : Int)))), (q 23, .inl (T 1, 80, .inl (fun jj : Nat => (iF (mkF (x 2) (x 18 0))) (jj : Int)))), (q 24, .inl (T 1, 1600, .inl (fun jj : Nat => (iF (cdF (x 2) (x 18 0))) (jj : Int)))), (q 25, .inl (T 1, 5280, .inl (fun jj : Nat => (iF (x 3)) (jj : Int)))), (q 26, .inl (T 1, 1600, .inl (fun jj : Nat => (iF (x 4)) (jj : Int)))), (q 27, .inl (T 0, 2000, .inl (fun jj : Nat => (iF (y 37)) (jj : Int)))), (q 28, .inl (T 0, 2000, .inl (fun jj : Nat => (iF (y 38)) (jj : Int)))), (q 29, .inl (T 1, 2000, .inl (fun jj : Nat => (iF (y 39)) (jj : Int))))]) rfl (by decide) (by decide) (fun _ => rfl) (by decide) (fun r u_ H locs hq143 hP hD hS => ?_)
          subst hq143
          refine lv_iload_n hx hb d_MO_keepRegister_146 rfl (lv_at hl 0 rfl) ?_
          refine cx_iconst hx hb d_MO_keepRegister_147 ?_
          refine lv_ishr hx hb d_MO_keepRegister_148 ?_
          refine cx_eq ((qb_all hq0).2.2.2.1) ?_
          refine cx_iconst hx hb d_MO_keepRegister_149 ?_
          refine lv_iand hx hb d_MO_keepRegister_150 ?_
          refine cx_eq ((qb_all hq0).2.2.2.2.1) ?_
          refine cx_bipush hx hb d_MO_keepRegister_151 rfl ?_
          refine cx_imul hx hb d_MO_keepRegister_153 ?_
          refine lv_ior hx hb d_MO_keepRegister_154 ?_
          refine cx_eq (bt_zd (by omega) (by omega)) ?_
          refine lv_iload_n hx hb d_MO_keepRegister_155 rfl (lv_at hl 0 rfl) ?_
          refine cx_iconst hx hb d_MO_keepRegister_156 ?_
          refine lv_ishr hx hb d_MO_keepRegister_157 ?_
          refine cx_eq ((qb_all hq0).2.2.2.2.2.1) ?_
          refine cx_iconst hx hb d_MO_keepRegister_158 ?_
          refine lv_iand hx hb d_MO_keepRegister_159 ?_
          refine cx_eq ((qb_all hq0).2.2.2.2.2.2) ?_
          refine cx_bipush hx hb d_MO_keepRegister_160 rfl ?_
          refine cx_imul hx hb d_MO_keepRegister_162 ?_
          refine lv_ior hx hb d_MO_keepRegister_163 ?_
          refine cx_eq (bt_q2 (by omega) (by omega)) ?_
          refine lv_i2b (v := iI (wrt (v % 10) + 16 * ((v / 1000) / 4))) hx hb d_MO_keepRegister_164 (i2b_ok (by omega)) ?_
          refine cx_bast (g := iF (fu (fu (x 0) ((x 12 0) - 2) (wrt ((v / 100) % 10) + 16 * ((v / 1000) % 4))) ((x 12 0) - 1) (wrt ((v / 10) % 10)))) (g' := iF (fu (fu (fu (x 0) ((x 12 0) - 2) (wrt ((v / 100) % 10) + 16 * ((v / 1000) % 4))) ((x 12 0) - 1) (wrt ((v / 10) % 10))) (x 12 0) (wrt (v % 10) + 16 * ((v / 1000) / 4)))) hx hb hK hP hD hS 1 1 rfl rfl (by omega) (by omega) (by omega) (fun j => iF_put j) d_MO_keepRegister_165 (fun H locs hP hD hS => ?_)
          have hP : va_P D vwCl (moW T q n (fu (fu (fu (x 0) ((x 12 0) - 2) (wrt ((v / 100) % 10) + 16 * ((v / 1000) % 4))) ((x 12 0) - 1) (wrt ((v / 10) % 10))) (x 12 0) (wrt (v % 10) + 16 * ((v / 1000) / 4))) (x 1) (mkF (x 2) (x 18 0)) (cdF (x 2) (x 18 0)) (x 3) (x 4) (x 11 0) (x 12 0) (x 13 0) (x 14 0) (x 15 0) (x 16 0) (x 17 0) (x 18 0) (x 19 0) (x 20 0) (x 21 0) (x 22 0) (y 31 0) (y 32 0) (y 33 0) (y 34 0) (y 35 0) (y 36 0) (y 37) (y 38) (y 39)) H := hP
          have hD : va_D A (moW T q n (fu (fu (fu (x 0) ((x 12 0) - 2) (wrt ((v / 100) % 10) + 16 * ((v / 1000) % 4))) ((x 12 0) - 1) (wrt ((v / 10) % 10))) (x 12 0) (wrt (v % 10) + 16 * ((v / 1000) / 4))) (x 1) (mkF (x 2) (x 18 0)) (cdF (x 2) (x 18 0)) (x 3) (x 4) (x 11 0) (x 12 0) (x 13 0) (x 14 0) (x 15 0) (x 16 0) (x 17 0) (x 18 0) (x 19 0) (x 20 0) (x 21 0) (x 22 0) (y 31 0) (y 32 0) (y 33 0) (y 34 0) (y 35 0) (y 36 0) (y 37) (y 38) (y 39)) := hD
          have hC : okC (fu (fu (fu (x 0) ((x 12 0) - 2) (wrt ((v / 100) % 10) + 16 * ((v / 1000) % 4))) ((x 12 0) - 1) (wrt ((v / 10) % 10))) (x 12 0) (wrt (v % 10) + 16 * ((v / 1000) / 4))) (x 1) := okC_fu hC (by omega)
          refine lv_aload_n hx hb d_MO_keepRegister_166 rfl (lv_at hl 2 rfl) ?_
          refine lv_dup hx hb d_MO_keepRegister_167 rfl ?_
          refine va_get (D := D) (ci := 5) (v := .int (iI (x 12 0))) (C := R_MO) (T := T_MO) (N := 28) hx hb hT lays_MO hown hK hP 0 rfl rfl 5 (by decide) (hT _ tw_641) (fun _ h9 => h9) rfl d_MO_keepRegister_168 ?_
          refine cx_iconst hx hb d_MO_keepRegister_171 ?_
          refine cx_isub hx hb d_MO_keepRegister_172 ?_
          refine va_put (D := D) (ci := 5) (v := .int (iI ((x 12 0) - 3))) (ty := .int) (C := R_MO) (T := T_MO) (N := 28) hx hb hT lays_MO t_MO t_MO_ok n_MO hown hK hP hD hS 0 rfl rfl 5 (by decide) (hT _ tw_641) (fun _ h9 => h9) rfl (by decide +kernel) rfl rfl (Nat.le_of_ble_eq_true rfl) d_MO_keepRegister_173 (fun H locs hP hD hS => ?_)
          have hP : va_P D vwCl (moW T q n (fu (fu (fu (x 0) ((x 12 0) - 2) (wrt ((v / 100) % 10) + 16 * ((v / 1000) % 4))) ((x 12 0) - 1) (wrt ((v / 10) % 10))) (x 12 0) (wrt (v % 10) + 16 * ((v / 1000) / 4))) (x 1) (mkF (x 2) (x 18 0)) (cdF (x 2) (x 18 0)) (x 3) (x 4) (x 11 0) ((x 12 0) - 3) (x 13 0) (x 14 0) (x 15 0) (x 16 0) (x 17 0) (x 18 0) (x 19 0) (x 20 0) (x 21 0) (x 22 0) (y 31 0) (y 32 0) (y 33 0) (y 34 0) (y 35 0) (y 36 0) (y 37) (y 38) (y 39)) H := hP
          have hD : va_D A (moW T q n (fu (fu (fu (x 0) ((x 12 0) - 2) (wrt ((v / 100) % 10) + 16 * ((v / 1000) % 4))) ((x 12 0) - 1) (wrt ((v / 10) % 10))) (x 12 0) (wrt (v % 10) + 16 * ((v / 1000) / 4))) (x 1) (mkF (x 2) (x 18 0)) (cdF (x 2) (x 18 0)) (x 3) (x 4) (x 11 0) ((x 12 0) - 3) (x 13 0) (x 14 0) (x 15 0) (x 16 0) (x 17 0) (x 18 0) (x 19 0) (x 20 0) (x 21 0) (x 22 0) (y 31 0) (y 32 0) (y 33 0) (y 34 0) (y 35 0) (y 36 0) (y 37) (y 38) (y 39)) := hD
          refine lv_aload_n hx hb d_MO_keepRegister_176 rfl (lv_at hl 2 rfl) ?_
          refine lv_aload_n hx hb d_MO_keepRegister_177 rfl (lv_at hl 2 rfl) ?_
          refine va_get (D := D) (ci := 5) (v := .int (iI (y 36 0))) (C := R_MO) (T := T_MO) (N := 28) hx hb hT lays_MO hown hK hP 0 rfl rfl 16 (by decide) (hT _ tw_652) (fun _ h9 => h9) rfl d_MO_keepRegister_178 ?_
          refine va_put (D := D) (ci := 5) (v := .int (iI (y 36 0))) (ty := .int) (C := R_MO) (T := T_MO) (N := 28) hx hb hT lays_MO t_MO t_MO_ok n_MO hown hK hP hD hS 0 rfl rfl 6 (by decide) (hT _ tw_642) (fun _ h9 => h9) rfl (by decide +kernel) rfl rfl (Nat.le_of_ble_eq_true rfl) d_MO_keepRegister_181 (fun H locs hP hD hS => ?_)
          have hP : va_P D vwCl (moW T q n (fu (fu (fu (x 0) ((x 12 0) - 2) (wrt ((v / 100) % 10) + 16 * ((v / 1000) % 4))) ((x 12 0) - 1) (wrt ((v / 10) % 10))) (x 12 0) (wrt (v % 10) + 16 * ((v / 1000) / 4))) (x 1) (mkF (x 2) (x 18 0)) (cdF (x 2) (x 18 0)) (x 3) (x 4) (x 11 0) ((x 12 0) - 3) (y 36 0) (x 14 0) (x 15 0) (x 16 0) (x 17 0) (x 18 0) (x 19 0) (x 20 0) (x 21 0) (x 22 0) (y 31 0) (y 32 0) (y 33 0) (y 34 0) (y 35 0) (y 36 0) (y 37) (y 38) (y 39)) H := hP
          have hD : va_D A (moW T q n (fu (fu (fu (x 0) ((x 12 0) - 2) (wrt ((v / 100) % 10) + 16 * ((v / 1000) % 4))) ((x 12 0) - 1) (wrt ((v / 10) % 10))) (x 12 0) (wrt (v % 10) + 16 * ((v / 1000) / 4))) (x 1) (mkF (x 2) (x 18 0)) (cdF (x 2) (x 18 0)) (x 3) (x 4) (x 11 0) ((x 12 0) - 3) (y 36 0) (x 14 0) (x 15 0) (x 16 0) (x 17 0) (x 18 0) (x 19 0) (x 20 0) (x 21 0) (x 22 0) (y 31 0) (y 32 0) (y 33 0) (y 34 0) (y 35 0) (y 36 0) (y 37) (y 38) (y 39)) := hD
          have hP : va_P D vwCl (moW T q n (fu (fu (fu (x 0) ((x 12 0) - 2) (wrt ((v / 100) % 10) + 16 * ((v / 1000) % 4))) ((x 12 0) - 1) (wrt ((v / 10) % 10))) (x 12 0) (wrt (v % 10) + 16 * ((v / 1000) / 4))) (x 1) (mkF (x 2) (x 18 0)) (cdF (x 2) (x 18 0)) (x 3) (x 4) (x 11 0) ((x 12 0) - 3) (x 13 0) (x 14 0) (x 15 0) (x 16 0) (x 17 0) (x 18 0) (x 19 0) (x 20 0) (x 21 0) (x 22 0) (y 31 0) (y 32 0) (y 33 0) (y 34 0) (y 35 0) (y 36 0) (y 37) (y 38) (y 39)) H := by rw [← hB]; exact hP
          have hD : va_D A (moW T q n (fu (fu (fu (x 0) ((x 12 0) - 2) (wrt ((v / 100) % 10) + 16 * ((v / 1000) % 4))) ((x 12 0) - 1) (wrt ((v / 10) % 10))) (x 12 0) (wrt (v % 10) + 16 * ((v / 1000) / 4))) (x 1) (mkF (x 2) (x 18 0)) (cdF (x 2) (x 18 0)) (x 3) (x 4) (x 11 0) ((x 12 0) - 3) (x 13 0) (x 14 0) (x 15 0) (x 16 0) (x 17 0) (x 18 0) (x 19 0) (x 20 0) (x 21 0) (x 22 0) (y 31 0) (y 32 0) (y 33 0) (y 34 0) (y 35 0) (y 36 0) (y 37) (y 38) (y 39)) := by rw [← hB]; exact hD
          refine cx_iconst hx hb d_MO_keepRegister_184 ?_
          exact hret ((up (up x 0 (fu (fu (fu (x 0) ((x 12 0) - 2) (wrt ((v / 100) % 10) + 16 * ((v / 1000) % 4))) ((x 12 0) - 1) (wrt ((v / 10) % 10))) (x 12 0) (wrt (v % 10) + 16 * ((v / 1000) / 4)))) 12 (cst ((x 12 0) - 3)), y) : SX × SX) (⟨pst_of (by unfold staS wad; rw [if_pos (by omega), show (if y 32 0 = 40 then y 35 0 else y 36 0) = -1 by split <;> omega, ← hv]) (show okX (up (up x 0 (fu (fu (fu (x 0) ((x 12 0) - 2) (wrt ((v / 100) % 10) + 16 * ((v / 1000) % 4))) ((x 12 0) - 1) (wrt ((v / 10) % 10))) (x 12 0) (wrt (v % 10) + 16 * ((v / 1000) / 4)))) 12 (cst ((x 12 0) - 3))) from ⟨hC, (show okR (x 11 0) ((x 12 0) - 3) (x 13 0) (x 14 0) (x 15 0) (x 16 0) (x 17 0) (x 18 0) (x 19 0) (x 20 0) by have h8 := hX.2.1; unfold okR at h8 ⊢; omega), hX.2.2⟩), ⟨rfl, rfl⟩⟩) hP hD hS d_MO_keepRegister_185
      refine lv_aload_n hx hb d_MO_keepRegister_26 rfl (lv_at hl 0 rfl) ?_
      refine va_get (D := D) (ci := 5) (v := .int (iI (y 32 0))) (C := R_MO) (T := T_MO) (N := 28) hx hb hT lays_MO hown hK hP 0 rfl rfl 12 (by decide) (hT _ tw_648) (fun _ h9 => h9) rfl d_MO_keepRegister_27 ?_
      refine cx_bipush hx hb d_MO_keepRegister_30 rfl ?_
      refine cx_icmp_ne (tgt := 42) hx hb d_MO_keepRegister_32 rfl (by omega) (by omega) (fun h32 => ?_) (fun h32 => ?_)
      · refine lv_aload_n hx hb d_MO_keepRegister_42 rfl (lv_at hl 0 rfl) ?_
        refine va_get (D := D) (ci := 5) (v := .int (iI (y 36 0))) (C := R_MO) (T := T_MO) (N := 28) hx hb hT lays_MO hown hK hP 0 rfl rfl 16 (by decide) (hT _ tw_652) (fun _ h9 => h9) rfl d_MO_keepRegister_43 ?_
        exact J46 (y 36 0) (by omega)
      · refine lv_aload_n hx hb d_MO_keepRegister_35 rfl (lv_at hl 0 rfl) ?_
        refine va_get (D := D) (ci := 5) (v := .int (iI (y 35 0))) (C := R_MO) (T := T_MO) (N := 28) hx hb hT lays_MO hown hK hP 0 rfl rfl 15 (by decide) (hT _ tw_651) (fun _ h9 => h9) rfl d_MO_keepRegister_36 ?_
        refine lv_goto (tgt := 46) hx hb d_MO_keepRegister_39 rfl ?_
        exact J46 (y 35 0) (by omega)
    · refine cx_if_ne (tgt := 26) hx hb d_MO_keepRegister_21 rfl (by omega) (fun h0 => absurd h0 (by decide)) (fun _ => ?_)
      refine cx_iconst hx hb d_MO_keepRegister_24 ?_
      exact hret ((x, y) : SX × SX) (⟨pst_of (by unfold staS; rw [if_neg (by omega)]) hX, ⟨rfl, rfl⟩⟩) hP hD hS d_MO_keepRegister_25
  · refine cx_if_eq (tgt := 24) hx hb d_MO_keepRegister_8 rfl (by omega) (fun _ => ?_) (fun h0 => absurd h0 (by decide))
    refine cx_iconst hx hb d_MO_keepRegister_24 ?_
    exact hret ((x, y) : SX × SX) (⟨pst_of (by unfold staS; rw [if_neg (by omega)]) hX, ⟨rfl, rfl⟩⟩) hP hD hS d_MO_keepRegister_25

set_option maxHeartbeats 4000000 in
set_option maxRecDepth 100000 in
theorem c_MO_address (l : Launch) (D : va_G) (T : Nat → ClassId) (sz : Nat) (q : Nat → Nat) (n : Nat) (hn : 400 ≤ n ∧ n ≤ 2000) (x y : SX) (hX : okX x) (z : Int) (hz : 0 ≤ z ∧ z + 2 < n) : MI l y_MO_address (wY y_MO_address b_MO_address 5 (some .int)) (rmK 1) D vwCl (tyL T) nwL sz [.ref (q 20), .int (iI (z))] (moW T q n (x 0) (x 1) (mkF (x 2) (x 18 0)) (cdF (x 2) (x 18 0)) (x 3) (x 4) (x 11 0) (x 12 0) (x 13 0) (x 14 0) (x 15 0) (x 16 0) (x 17 0) (x 18 0) (x 19 0) (x 20 0) (x 21 0) (x 22 0) (y 31 0) (y 32 0) (y 33 0) (y 34 0) (y 35 0) (y 36 0) (y 37) (y 38) (y 39)) (fun r (_ : Unit) => r = iI (adr (x 0) z)) (fun _ => moX T q n x y) := by
  refine cx_inI (by decide) rfl (Nat.le_of_ble_eq_true rfl) ?_
  intro p e s m below meth cd ls A Q hx hb hml hT hown hret hP hK hD hN hS hA hl
  have hown : s.vm.findClass R_MO = some m.cls := hown
  have hl : lv_has ls 5 [(0, .ref (q 20)), (1, .int (iI (z)))] := hl
  have hC := hX.1
  have hR0 := hX.2.1
  have hF := hX.2.2
  unfold okR at hR0
  refine lv_aload_n hx hb d_MO_address_0 rfl (lv_at hl 0 rfl) ?_
  refine va_get (D := D) (ci := 5) (v := .ref (q 21)) (C := R_MO) (T := T_MO) (N := 28) hx hb hT lays_MO hown hK hP 0 rfl rfl 2 (by decide) (hT _ tw_638) (fun _ h9 => h9) rfl d_MO_address_1 ?_
  refine lv_iload_n hx hb d_MO_address_4 rfl (lv_at hl 1 rfl) ?_
  refine cx_bald (g := iF (x 0)) hx hb hK hP 1 1 rfl rfl (by omega) (by omega) d_MO_address_5 ?_
  have hc5 := hC.1 (z)
  refine lv_istore_n (lv' := [(2, .int (iI ((x 0) (z)))), (0, .ref (q 20)), (1, .int (iI (z)))]) hx hb d_MO_address_6 rfl hl (by decide) rfl (fun ls hl => ?_)
  refine lv_aload_n hx hb d_MO_address_7 rfl (lv_at hl 1 rfl) ?_
  refine va_get (D := D) (ci := 5) (v := .ref (q 21)) (C := R_MO) (T := T_MO) (N := 28) hx hb hT lays_MO hown hK hP 0 rfl rfl 2 (by decide) (hT _ tw_638) (fun _ h9 => h9) rfl d_MO_address_8 ?_
  refine lv_iload_n hx hb d_MO_address_11 rfl (lv_at hl 2 rfl) ?_
  refine cx_iconst hx hb d_MO_address_12 ?_
  refine cx_iadd hx hb d_MO_address_13 ?_
  refine cx_bald (g := iF (x 0)) hx hb hK hP 1 1 rfl rfl (by omega) (by omega) d_MO_address_14 ?_
  have hc14 := hC.1 (z + 1)
  refine lv_istore_n (lv' := [(3, .int (iI ((x 0) (z + 1)))), (2, .int (iI ((x 0) (z)))), (0, .ref (q 20)), (1, .int (iI (z)))]) hx hb d_MO_address_15 rfl hl (by decide) rfl (fun ls hl => ?_)
  refine lv_aload_n hx hb d_MO_address_16 rfl (lv_at hl 2 rfl) ?_
  refine va_get (D := D) (ci := 5) (v := .ref (q 21)) (C := R_MO) (T := T_MO) (N := 28) hx hb hT lays_MO hown hK hP 0 rfl rfl 2 (by decide) (hT _ tw_638) (fun _ h9 => h9) rfl d_MO_address_17 ?_
  refine lv_iload_n hx hb d_MO_address_20 rfl (lv_at hl 3 rfl) ?_
  refine cx_iconst hx hb d_MO_address_21 ?_
  refine cx_iadd hx hb d_MO_address_22 ?_
  refine cx_bald (g := iF (x 0)) hx hb hK hP 1 1 rfl rfl (by omega) (by omega) d_MO_address_23 ?_
  have hc23 := hC.1 (z + 2)
  refine lv_istore (lv' := [(4, .int (iI ((x 0) (z + 2)))), (3, .int (iI ((x 0) (z + 1)))), (2, .int (iI ((x 0) (z)))), (0, .ref (q 20)), (1, .int (iI (z)))]) hx hb d_MO_address_24 hl (by decide) rfl (fun ls hl => ?_)
  have hva := vl_in hc5
  have hvb := vl_in hc14
  have hvc := vl_in hc23
  refine cx_bipush hx hb d_MO_address_26 rfl ?_
  refine lv_iload_n hx hb d_MO_address_28 rfl (lv_at hl 2 rfl) ?_
  refine cx_cI (ws2 := fun _ => moW T q n (x 0) (x 1) (mkF (x 2) (x 18 0)) (cdF (x 2) (x 18 0)) (x 3) (x 4) (x 11 0) (x 12 0) (x 13 0) (x 14 0) (x 15 0) (x 16 0) (x 17 0) (x 18 0) (x 19 0) (x 20 0) (x 21 0) (x 22 0) (y 31 0) (y 32 0) (y 33 0) (y 34 0) (y 35 0) (y 36 0) (y 37) (y 38) (y 39)) (cx_rS (rest := [.int (iI (100))]) (As := [.int (iI ((x 0) (z)))]) hx hb hml hown hT hK hN hP hD hl.1 tw_775 k_MO_value (c_MO_value l D T s.heap.size ((x 0) (z)) (by omega)) ⟨by decide, by decide⟩ ⟨rfl, rfl⟩ [] (by decide) rfl rfl rfl (Nat.le_of_ble_eq_true rfl) ⟨Nat.zero_le _, Nat.zero_le _⟩ d_MO_address_29) hP hD hS hA [] [0, 1, 2, 3, 4, 5, 6, 7, 8, 9] [0, 1, 2, 3, 4, 5, 6, 7, 8, 9] rfl (wr := [(q 20, .inr (5, [.int (iI (y 31 0)), .int (iI ((n : Int))), .ref (q 21), .ref (q 22), .int (iI (x 11 0)), .int (iI (x 12 0)), .int (iI (x 13 0)), .int (iI (x 14 0)), .int (iI (x 15 0)), .int (iI (x 16 0)), .int (iI (x 21 0)), .int (iI (x 22 0)), .int (iI (y 32 0)), .int (iI (y 33 0)), .int (iI (y 34 0)), .int (iI (y 35 0)), .int (iI (y 36 0)), .ref (q 23), .int (iI (x 18 0)), .int (iI (x 17 0)), .ref (q 24), .int (iI (x 19 0)), .ref (q 25), .int (iI (x 20 0)), .ref (q 26), .ref (q 27), .ref (q 28), .ref (q 29)])), (q 21, .inl (T 1, 2000, .inl (fun jj : Nat => (iF (x 0)) (jj : Int)))), (q 22, .inl (T 2, 2000, .inl (fun jj : Nat => (iF (x 1)) (jj : Int)))), (q 23, .inl (T 1, 80, .inl (fun jj : Nat => (iF (mkF (x 2) (x 18 0))) (jj : Int)))), (q 24, .inl (T 1, 1600, .inl (fun jj : Nat => (iF (cdF (x 2) (x 18 0))) (jj : Int)))), (q 25, .inl (T 1, 5280, .inl (fun jj : Nat => (iF (x 3)) (jj : Int)))), (q 26, .inl (T 1, 1600, .inl (fun jj : Nat => (iF (x 4)) (jj : Int)))), (q 27, .inl (T 0, 2000, .inl (fun jj : Nat => (iF (y 37)) (jj : Int)))), (q 28, .inl (T 0, 2000, .inl (fun jj : Nat => (iF (y 38)) (jj : Int)))), (q 29, .inl (T 1, 2000, .inl (fun jj : Nat => (iF (y 39)) (jj : Int))))]) rfl (by decide) (by decide) (fun _ => rfl) (by decide) (fun r u_ H locs hq29 hP hD hS => ?_)
  subst hq29
  refine cx_imul hx hb d_MO_address_32 ?_
  refine cx_bipush hx hb d_MO_address_33 rfl ?_
  refine lv_iload_n hx hb d_MO_address_35 rfl (lv_at hl 1 rfl) ?_
  refine cx_cI (ws2 := fun _ => moW T q n (x 0) (x 1) (mkF (x 2) (x 18 0)) (cdF (x 2) (x 18 0)) (x 3) (x 4) (x 11 0) (x 12 0) (x 13 0) (x 14 0) (x 15 0) (x 16 0) (x 17 0) (x 18 0) (x 19 0) (x 20 0) (x 21 0) (x 22 0) (y 31 0) (y 32 0) (y 33 0) (y 34 0) (y 35 0) (y 36 0) (y 37) (y 38) (y 39)) (cx_rS (rest := [.int (iI (10)), .int (iI (100 * (vl ((x 0) (z)))))]) (As := [.int (iI ((x 0) (z + 1)))]) hx hb hml hown hT hK hN hP hD hl.1 tw_775 k_MO_value (c_MO_value l D T H.size ((x 0) (z + 1)) (by omega)) ⟨by decide, by decide⟩ ⟨rfl, rfl⟩ [] (by decide) rfl rfl rfl (Nat.le_of_ble_eq_true rfl) ⟨Nat.zero_le _, Nat.zero_le _⟩ d_MO_address_36) hP hD hS hA [] [0, 1, 2, 3, 4, 5, 6, 7, 8, 9] [0, 1, 2, 3, 4, 5, 6, 7, 8, 9] rfl (wr := [(q 20, .inr (5, [.int (iI (y 31 0)), .int (iI ((n : Int))), .ref (q 21), .ref (q 22), .int (iI (x 11 0)), .int (iI (x 12 0)), .int (iI (x 13 0)), .int (iI (x 14 0)), .int (iI (x 15 0)), .int (iI (x 16 0)), .int (iI (x 21 0)), .int (iI (x 22 0)), .int (iI (y 32 0)), .int (iI (y 33 0)), .int (iI (y 34 0)), .int (iI (y 35 0)), .int (iI (y 36 0)), .ref (q 23), .int (iI (x 18 0)), .int (iI (x 17 0)), .ref (q 24), .int (iI (x 19 0)), .ref (q 25), .int (iI (x 20 0)), .ref (q 26), .ref (q 27), .ref (q 28), .ref (q 29)])), (q 21, .inl (T 1, 2000, .inl (fun jj : Nat => (iF (x 0)) (jj : Int)))), (q 22, .inl (T 2, 2000, .inl (fun jj : Nat => (iF (x 1)) (jj : Int)))), (q 23, .inl (T 1, 80, .inl (fun jj : Nat => (iF (mkF (x 2) (x 18 0))) (jj : Int)))), (q 24, .inl (T 1, 1600, .inl (fun jj : Nat => (iF (cdF (x 2) (x 18 0))) (jj : Int)))), (q 25, .inl (T 1, 5280, .inl (fun jj : Nat => (iF (x 3)) (jj : Int)))), (q 26, .inl (T 1, 1600, .inl (fun jj : Nat => (iF (x 4)) (jj : Int)))), (q 27, .inl (T 0, 2000, .inl (fun jj : Nat => (iF (y 37)) (jj : Int)))), (q 28, .inl (T 0, 2000, .inl (fun jj : Nat => (iF (y 38)) (jj : Int)))), (q 29, .inl (T 1, 2000, .inl (fun jj : Nat => (iF (y 39)) (jj : Int))))]) rfl (by decide) (by decide) (fun _ => rfl) (by decide) (fun r u_ H locs hq36 hP hD hS => ?_)
  subst hq36
  refine cx_imul hx hb d_MO_address_39 ?_
  refine cx_iadd hx hb d_MO_address_40 ?_
  refine lv_iload hx hb d_MO_address_41 (lv_at hl 0 rfl) ?_
  refine cx_cI (ws2 := fun _ => moW T q n (x 0) (x 1) (mkF (x 2) (x 18 0)) (cdF (x 2) (x 18 0)) (x 3) (x 4) (x 11 0) (x 12 0) (x 13 0) (x 14 0) (x 15 0) (x 16 0) (x 17 0) (x 18 0) (x 19 0) (x 20 0) (x 21 0) (x 22 0) (y 31 0) (y 32 0) (y 33 0) (y 34 0) (y 35 0) (y 36 0) (y 37) (y 38) (y 39)) (cx_rS (rest := [.int (iI ((100 * (vl ((x 0) (z)))) + (10 * (vl ((x 0) (z + 1))))))]) (As := [.int (iI ((x 0) (z + 2)))]) hx hb hml hown hT hK hN hP hD hl.1 tw_775 k_MO_value (c_MO_value l D T H.size ((x 0) (z + 2)) (by omega)) ⟨by decide, by decide⟩ ⟨rfl, rfl⟩ [] (by decide) rfl rfl rfl (Nat.le_of_ble_eq_true rfl) ⟨Nat.zero_le _, Nat.zero_le _⟩ d_MO_address_43) hP hD hS hA [] [0, 1, 2, 3, 4, 5, 6, 7, 8, 9] [0, 1, 2, 3, 4, 5, 6, 7, 8, 9] rfl (wr := [(q 20, .inr (5, [.int (iI (y 31 0)), .int (iI ((n : Int))), .ref (q 21), .ref (q 22), .int (iI (x 11 0)), .int (iI (x 12 0)), .int (iI (x 13 0)), .int (iI (x 14 0)), .int (iI (x 15 0)), .int (iI (x 16 0)), .int (iI (x 21 0)), .int (iI (x 22 0)), .int (iI (y 32 0)), .int (iI (y 33 0)), .int (iI (y 34 0)), .int (iI (y 35 0)), .int (iI (y 36 0)), .ref (q 23), .int (iI (x 18 0)), .int (iI (x 17 0)), .ref (q 24), .int (iI (x 19 0)), .ref (q 25), .int (iI (x 20 0)), .ref (q 26), .ref (q 27), .ref (q 28), .ref (q 29)])), (q 21, .inl (T 1, 2000, .inl (fun jj : Nat => (iF (x 0)) (jj : Int)))), (q 22, .inl (T 2, 2000, .inl (fun jj : Nat => (iF (x 1)) (jj : Int)))), (q 23, .inl (T 1, 80, .inl (fun jj : Nat => (iF (mkF (x 2) (x 18 0))) (jj : Int)))), (q 24, .inl (T 1, 1600, .inl (fun jj : Nat => (iF (cdF (x 2) (x 18 0))) (jj : Int)))), (q 25, .inl (T 1, 5280, .inl (fun jj : Nat => (iF (x 3)) (jj : Int)))), (q 26, .inl (T 1, 1600, .inl (fun jj : Nat => (iF (x 4)) (jj : Int)))), (q 27, .inl (T 0, 2000, .inl (fun jj : Nat => (iF (y 37)) (jj : Int)))), (q 28, .inl (T 0, 2000, .inl (fun jj : Nat => (iF (y 38)) (jj : Int)))), (q 29, .inl (T 1, 2000, .inl (fun jj : Nat => (iF (y 39)) (jj : Int))))]) rfl (by decide) (by decide) (fun _ => rfl) (by decide) (fun r u_ H locs hq43 hP hD hS => ?_)
  subst hq43
  refine cx_iadd hx hb d_MO_address_46 ?_
  refine lv_iload_n hx hb d_MO_address_47 rfl (lv_at hl 2 rfl) ?_
  refine cx_iconst hx hb d_MO_address_48 ?_
  refine lv_ishr hx hb d_MO_address_49 ?_
  refine cx_eq ((hb_all hc5).1) ?_
  refine cx_iconst hx hb d_MO_address_50 ?_
  refine lv_iand hx hb d_MO_address_51 ?_
  refine cx_eq ((hb_all hc5).2.2.1) ?_
  refine cx_sipush hx hb d_MO_address_52 rfl ?_
  refine cx_imul hx hb d_MO_address_55 ?_
  refine cx_iadd hx hb d_MO_address_56 ?_
  refine lv_iload_n hx hb d_MO_address_57 rfl (lv_at hl 2 rfl) ?_
  refine cx_iconst hx hb d_MO_address_58 ?_
  refine lv_ishr hx hb d_MO_address_59 ?_
  refine cx_eq ((hb_all hc5).2.1) ?_
  refine cx_iconst hx hb d_MO_address_60 ?_
  refine lv_iand hx hb d_MO_address_61 ?_
  refine cx_eq ((hb_all hc5).2.2.2) ?_
  refine cx_sipush hx hb d_MO_address_62 rfl ?_
  refine cx_imul hx hb d_MO_address_65 ?_
  refine cx_iadd hx hb d_MO_address_66 ?_
  refine lv_iload hx hb d_MO_address_67 (lv_at hl 0 rfl) ?_
  refine cx_iconst hx hb d_MO_address_69 ?_
  refine lv_ishr hx hb d_MO_address_70 ?_
  refine cx_eq ((hb_all hc23).1) ?_
  refine cx_iconst hx hb d_MO_address_71 ?_
  refine lv_iand hx hb d_MO_address_72 ?_
  refine cx_eq ((hb_all hc23).2.2.1) ?_
  refine cx_sipush hx hb d_MO_address_73 rfl ?_
  refine cx_imul hx hb d_MO_address_76 ?_
  refine cx_iadd hx hb d_MO_address_77 ?_
  refine lv_iload hx hb d_MO_address_78 (lv_at hl 0 rfl) ?_
  refine cx_iconst hx hb d_MO_address_80 ?_
  refine lv_ishr hx hb d_MO_address_81 ?_
  refine cx_eq ((hb_all hc23).2.1) ?_
  refine cx_iconst hx hb d_MO_address_82 ?_
  refine lv_iand hx hb d_MO_address_83 ?_
  refine cx_eq ((hb_all hc23).2.2.2) ?_
  refine cx_sipush hx hb d_MO_address_84 rfl ?_
  refine cx_imul hx hb d_MO_address_87 ?_
  refine cx_iadd hx hb d_MO_address_88 ?_
  exact hret () (by unfold adr; congr 1; omega) hP hD hS d_MO_address_89

set_option maxHeartbeats 4000000 in
set_option maxRecDepth 100000 in
theorem c_MO_may (l : Launch) (D : va_G) (T : Nat → ClassId) (sz : Nat) (z : Int) (hz : 0 ≤ z ∧ z < 64) (k : Int) (hk : -2147483648 ≤ k ∧ k < 2147483648) : MI l y_MO_may (wY y_MO_may b_MO_may 3 (some .boolean)) (rmK 1) D vwCl (tyL T) nwL sz [.int (iI (z)), .int (iI (k))] (([] : va_W)) (fun r (_ : Unit) => (r = iI 1 ∧ (alv z k)) ∨ (r = iI 0 ∧ (¬ alv z k))) (fun _ => ([] : va_W)) := by
  refine cx_inZ (by decide) rfl (Nat.le_of_ble_eq_true rfl) ?_
  intro p e s m below meth cd ls A Q hx hb hml hT hown hret hP hK hD hN hS hA hl
  have hown : s.vm.findClass R_MO = some m.cls := hown
  have hl : lv_has ls 3 [(0, .int (iI (z))), (1, .int (iI (k)))] := hl
  have J21 : ∀ v21 : Int, ((v21 = 1 ∧ (k = 1 ∨ k = 4 ∨ k = 7)) ∨ (v21 = 0 ∧ ¬ (k = 1 ∨ k = 4 ∨ k = 7))) → W p l e (rmK 1) s m ([.int (iI (z)), .int (iI (k))] : List Value).toArray below meth cd s.heap [] 0 0 Q (F0 m 21 ls [.int (iI v21)]) := by
    intro v21 hv21
    refine lv_istore_n (lv' := [(2, .int (iI (v21))), (0, .int (iI (z))), (1, .int (iI (k)))]) hx hb d_MO_may_21 rfl hl (by decide) rfl (fun ls hl => ?_)
    refine lv_iload_n hx hb d_MO_may_22 rfl (lv_at hl 1 rfl) ?_
    refine cx_cI (ws2 := fun _ => ([] : va_W)) (cx_rS (rest := []) (As := [.int (iI (z))]) hx hb hml hown hT hK hN hP hD hl.1 tw_768 k_MO_isArithmetic (c_MO_isArithmetic l D T s.heap.size z (by omega)) ⟨by decide, by decide⟩ ⟨rfl, rfl⟩ [] (by decide) rfl rfl rfl (Nat.le_of_ble_eq_true rfl) ⟨Nat.zero_le _, Nat.zero_le _⟩ d_MO_may_23) hP hD hS hA [] [] [] rfl (wr := []) rfl (by decide) (by decide) (fun _ => rfl) (by decide) (fun r u_ H locs hq23 hP hD hS => ?_)
    rcases hq23 with ⟨rfl, h23⟩ | ⟨rfl, h23⟩
    · refine cx_if_ne (tgt := 83) hx hb d_MO_may_26 rfl (by omega) (fun _ => ?_) (fun h0 => absurd h0 (by decide))
      rcases hv21 with ⟨rfl, h21⟩ | ⟨rfl, h21⟩
      · refine lv_iload_n hx hb d_MO_may_83 rfl (lv_at hl 0 rfl) ?_
        exact hret () (Or.inr rfl) (Or.inl ⟨rfl, by unfold alv; omega⟩) hP hD hS d_MO_may_84
      · refine lv_iload_n hx hb d_MO_may_83 rfl (lv_at hl 0 rfl) ?_
        exact hret () (Or.inl rfl) (Or.inr ⟨rfl, by unfold alv; omega⟩) hP hD hS d_MO_may_84
    · refine cx_if_ne (tgt := 83) hx hb d_MO_may_26 rfl (by omega) (fun h0 => absurd h0 (by decide)) (fun _ => ?_)
      refine lv_iload_n hx hb d_MO_may_29 rfl (lv_at hl 1 rfl) ?_
      refine cx_bipush hx hb d_MO_may_30 rfl ?_
      refine cx_icmp_eq (tgt := 83) hx hb d_MO_may_32 rfl (by omega) (by omega) (fun h32 => ?_) (fun h32 => ?_)
      · rcases hv21 with ⟨rfl, h21⟩ | ⟨rfl, h21⟩
        · refine lv_iload_n hx hb d_MO_may_83 rfl (lv_at hl 0 rfl) ?_
          exact hret () (Or.inr rfl) (Or.inl ⟨rfl, by unfold alv; omega⟩) hP hD hS d_MO_may_84
        · refine lv_iload_n hx hb d_MO_may_83 rfl (lv_at hl 0 rfl) ?_
          exact hret () (Or.inl rfl) (Or.inr ⟨rfl, by unfold alv; omega⟩) hP hD hS d_MO_may_84
      · refine lv_iload_n hx hb d_MO_may_35 rfl (lv_at hl 1 rfl) ?_
        refine cx_bipush hx hb d_MO_may_36 rfl ?_
        refine cx_icmp_eq (tgt := 83) hx hb d_MO_may_38 rfl (by omega) (by omega) (fun h38 => ?_) (fun h38 => ?_)
        · rcases hv21 with ⟨rfl, h21⟩ | ⟨rfl, h21⟩
          · refine lv_iload_n hx hb d_MO_may_83 rfl (lv_at hl 0 rfl) ?_
            exact hret () (Or.inr rfl) (Or.inl ⟨rfl, by unfold alv; omega⟩) hP hD hS d_MO_may_84
          · refine lv_iload_n hx hb d_MO_may_83 rfl (lv_at hl 0 rfl) ?_
            exact hret () (Or.inl rfl) (Or.inr ⟨rfl, by unfold alv; omega⟩) hP hD hS d_MO_may_84
        · refine lv_iload_n hx hb d_MO_may_41 rfl (lv_at hl 1 rfl) ?_
          refine cx_bipush hx hb d_MO_may_42 rfl ?_
          refine cx_icmp_eq (tgt := 83) hx hb d_MO_may_44 rfl (by omega) (by omega) (fun h44 => ?_) (fun h44 => ?_)
          · rcases hv21 with ⟨rfl, h21⟩ | ⟨rfl, h21⟩
            · refine lv_iload_n hx hb d_MO_may_83 rfl (lv_at hl 0 rfl) ?_
              exact hret () (Or.inr rfl) (Or.inl ⟨rfl, by unfold alv; omega⟩) hP hD hS d_MO_may_84
            · refine lv_iload_n hx hb d_MO_may_83 rfl (lv_at hl 0 rfl) ?_
              exact hret () (Or.inl rfl) (Or.inr ⟨rfl, by unfold alv; omega⟩) hP hD hS d_MO_may_84
          · refine lv_iload_n hx hb d_MO_may_47 rfl (lv_at hl 1 rfl) ?_
            refine cx_bipush hx hb d_MO_may_48 rfl ?_
            refine cx_icmp_eq (tgt := 83) hx hb d_MO_may_50 rfl (by omega) (by omega) (fun h50 => ?_) (fun h50 => ?_)
            · rcases hv21 with ⟨rfl, h21⟩ | ⟨rfl, h21⟩
              · refine lv_iload_n hx hb d_MO_may_83 rfl (lv_at hl 0 rfl) ?_
                exact hret () (Or.inr rfl) (Or.inl ⟨rfl, by unfold alv; omega⟩) hP hD hS d_MO_may_84
              · refine lv_iload_n hx hb d_MO_may_83 rfl (lv_at hl 0 rfl) ?_
                exact hret () (Or.inl rfl) (Or.inr ⟨rfl, by unfold alv; omega⟩) hP hD hS d_MO_may_84
            · refine lv_iload_n hx hb d_MO_may_53 rfl (lv_at hl 1 rfl) ?_
              refine cx_bipush hx hb d_MO_may_54 rfl ?_
              refine cx_icmp_eq (tgt := 83) hx hb d_MO_may_56 rfl (by omega) (by omega) (fun h56 => ?_) (fun h56 => ?_)
              · rcases hv21 with ⟨rfl, h21⟩ | ⟨rfl, h21⟩
                · refine lv_iload_n hx hb d_MO_may_83 rfl (lv_at hl 0 rfl) ?_
                  exact hret () (Or.inr rfl) (Or.inl ⟨rfl, by unfold alv; omega⟩) hP hD hS d_MO_may_84
                · refine lv_iload_n hx hb d_MO_may_83 rfl (lv_at hl 0 rfl) ?_
                  exact hret () (Or.inl rfl) (Or.inr ⟨rfl, by unfold alv; omega⟩) hP hD hS d_MO_may_84
              · refine lv_iload_n hx hb d_MO_may_59 rfl (lv_at hl 1 rfl) ?_
                refine cx_bipush hx hb d_MO_may_60 rfl ?_
                refine cx_icmp_eq (tgt := 83) hx hb d_MO_may_62 rfl (by omega) (by omega) (fun h62 => ?_) (fun h62 => ?_)
                · rcases hv21 with ⟨rfl, h21⟩ | ⟨rfl, h21⟩
                  · refine lv_iload_n hx hb d_MO_may_83 rfl (lv_at hl 0 rfl) ?_
                    exact hret () (Or.inr rfl) (Or.inl ⟨rfl, by unfold alv; omega⟩) hP hD hS d_MO_may_84
                  · refine lv_iload_n hx hb d_MO_may_83 rfl (lv_at hl 0 rfl) ?_
                    exact hret () (Or.inl rfl) (Or.inr ⟨rfl, by unfold alv; omega⟩) hP hD hS d_MO_may_84
                · refine lv_iload_n hx hb d_MO_may_65 rfl (lv_at hl 1 rfl) ?_
                  refine cx_bipush hx hb d_MO_may_66 rfl ?_
                  refine cx_icmp_eq (tgt := 83) hx hb d_MO_may_68 rfl (by omega) (by omega) (fun h68 => ?_) (fun h68 => ?_)
                  · rcases hv21 with ⟨rfl, h21⟩ | ⟨rfl, h21⟩
                    · refine lv_iload_n hx hb d_MO_may_83 rfl (lv_at hl 0 rfl) ?_
                      exact hret () (Or.inr rfl) (Or.inl ⟨rfl, by unfold alv; omega⟩) hP hD hS d_MO_may_84
                    · refine lv_iload_n hx hb d_MO_may_83 rfl (lv_at hl 0 rfl) ?_
                      exact hret () (Or.inl rfl) (Or.inr ⟨rfl, by unfold alv; omega⟩) hP hD hS d_MO_may_84
                  · refine lv_iload_n hx hb d_MO_may_71 rfl (lv_at hl 1 rfl) ?_
                    refine cx_bipush hx hb d_MO_may_72 rfl ?_
                    refine cx_icmp_eq (tgt := 83) hx hb d_MO_may_74 rfl (by omega) (by omega) (fun h74 => ?_) (fun h74 => ?_)
                    · rcases hv21 with ⟨rfl, h21⟩ | ⟨rfl, h21⟩
                      · refine lv_iload_n hx hb d_MO_may_83 rfl (lv_at hl 0 rfl) ?_
                        exact hret () (Or.inr rfl) (Or.inl ⟨rfl, by unfold alv; omega⟩) hP hD hS d_MO_may_84
                      · refine lv_iload_n hx hb d_MO_may_83 rfl (lv_at hl 0 rfl) ?_
                        exact hret () (Or.inl rfl) (Or.inr ⟨rfl, by unfold alv; omega⟩) hP hD hS d_MO_may_84
                    · refine lv_iload_n hx hb d_MO_may_77 rfl (lv_at hl 1 rfl) ?_
                      refine cx_bipush hx hb d_MO_may_78 rfl ?_
                      refine cx_icmp_ne (tgt := 85) hx hb d_MO_may_80 rfl (by omega) (by omega) (fun h80 => ?_) (fun h80 => ?_)
                      · refine lv_iload_n hx hb d_MO_may_85 rfl (lv_at hl 1 rfl) ?_
                        obtain ⟨k9, hk9⟩ : ∃ k : Fin 64, z = (k.val : Int) := fin64 (by omega)
                        by_cases hs168 : z = 50
                        · refine cx_lsw (tgt := 168) (off := 82) hx hb d_MO_may_86 (by omega) (by rw [hk9]; exact sw_may_168 k9 (by omega)) rfl ?_
                          refine lv_iload_n hx hb d_MO_may_168 rfl (lv_at hl 2 rfl) ?_
                          refine cx_iconst hx hb d_MO_may_169 ?_
                          refine cx_icmp_eq (tgt := 189) hx hb d_MO_may_170 rfl (by omega) (by omega) (fun h170 => ?_) (fun h170 => ?_)
                          · refine cx_iconst hx hb d_MO_may_189 ?_
                            refine lv_goto (tgt := 194) hx hb d_MO_may_190 rfl ?_
                            exact hret () (Or.inr rfl) (Or.inl ⟨rfl, by unfold alv; omega⟩) hP hD hS d_MO_may_194
                          · refine lv_iload_n hx hb d_MO_may_173 rfl (lv_at hl 2 rfl) ?_
                            refine cx_iconst hx hb d_MO_may_174 ?_
                            refine cx_icmp_eq (tgt := 189) hx hb d_MO_may_175 rfl (by omega) (by omega) (fun h175 => ?_) (fun h175 => ?_)
                            · refine cx_iconst hx hb d_MO_may_189 ?_
                              refine lv_goto (tgt := 194) hx hb d_MO_may_190 rfl ?_
                              exact hret () (Or.inr rfl) (Or.inl ⟨rfl, by unfold alv; omega⟩) hP hD hS d_MO_may_194
                            · refine lv_iload_n hx hb d_MO_may_178 rfl (lv_at hl 2 rfl) ?_
                              refine cx_iconst hx hb d_MO_may_179 ?_
                              refine cx_icmp_eq (tgt := 189) hx hb d_MO_may_180 rfl (by omega) (by omega) (fun h180 => ?_) (fun h180 => ?_)
                              · refine cx_iconst hx hb d_MO_may_189 ?_
                                refine lv_goto (tgt := 194) hx hb d_MO_may_190 rfl ?_
                                exact hret () (Or.inr rfl) (Or.inl ⟨rfl, by unfold alv; omega⟩) hP hD hS d_MO_may_194
                              · refine lv_iload_n hx hb d_MO_may_183 rfl (lv_at hl 2 rfl) ?_
                                refine cx_bipush hx hb d_MO_may_184 rfl ?_
                                refine cx_icmp_ne (tgt := 193) hx hb d_MO_may_186 rfl (by omega) (by omega) (fun h186 => ?_) (fun h186 => ?_)
                                · refine cx_iconst hx hb d_MO_may_193 ?_
                                  exact hret () (Or.inl rfl) (Or.inr ⟨rfl, by unfold alv; omega⟩) hP hD hS d_MO_may_194
                                · refine cx_iconst hx hb d_MO_may_189 ?_
                                  refine lv_goto (tgt := 194) hx hb d_MO_may_190 rfl ?_
                                  exact hret () (Or.inr rfl) (Or.inl ⟨rfl, by unfold alv; omega⟩) hP hD hS d_MO_may_194
                        by_cases hs195 : z = 21
                        · refine cx_lsw (tgt := 195) (off := 109) hx hb d_MO_may_86 (by omega) (by rw [hk9]; exact sw_may_195 k9 (by omega)) rfl ?_
                          refine lv_iload_n hx hb d_MO_may_195 rfl (lv_at hl 2 rfl) ?_
                          refine cx_bipush hx hb d_MO_may_196 rfl ?_
                          refine cx_icmp_ne (tgt := 205) hx hb d_MO_may_198 rfl (by omega) (by omega) (fun h198 => ?_) (fun h198 => ?_)
                          · refine cx_iconst hx hb d_MO_may_205 ?_
                            exact hret () (Or.inl rfl) (Or.inr ⟨rfl, by unfold alv; omega⟩) hP hD hS d_MO_may_206
                          · refine cx_iconst hx hb d_MO_may_201 ?_
                            refine lv_goto (tgt := 206) hx hb d_MO_may_202 rfl ?_
                            exact hret () (Or.inr rfl) (Or.inl ⟨rfl, by unfold alv; omega⟩) hP hD hS d_MO_may_206
                        by_cases hs207 : z = 1 ∨ z = 2 ∨ z = 4
                        · refine cx_lsw (tgt := 207) (off := 121) hx hb d_MO_may_86 (by omega) (by rw [hk9]; exact sw_may_207 k9 (by omega)) rfl ?_
                          refine lv_iload_n hx hb d_MO_may_207 rfl (lv_at hl 2 rfl) ?_
                          refine cx_iconst hx hb d_MO_may_208 ?_
                          refine cx_icmp_eq (tgt := 227) hx hb d_MO_may_209 rfl (by omega) (by omega) (fun h209 => ?_) (fun h209 => ?_)
                          · refine cx_iconst hx hb d_MO_may_227 ?_
                            refine lv_goto (tgt := 232) hx hb d_MO_may_228 rfl ?_
                            exact hret () (Or.inr rfl) (Or.inl ⟨rfl, by unfold alv; omega⟩) hP hD hS d_MO_may_232
                          · refine lv_iload_n hx hb d_MO_may_212 rfl (lv_at hl 2 rfl) ?_
                            refine cx_iconst hx hb d_MO_may_213 ?_
                            refine cx_icmp_eq (tgt := 227) hx hb d_MO_may_214 rfl (by omega) (by omega) (fun h214 => ?_) (fun h214 => ?_)
                            · refine cx_iconst hx hb d_MO_may_227 ?_
                              refine lv_goto (tgt := 232) hx hb d_MO_may_228 rfl ?_
                              exact hret () (Or.inr rfl) (Or.inl ⟨rfl, by unfold alv; omega⟩) hP hD hS d_MO_may_232
                            · refine lv_iload_n hx hb d_MO_may_217 rfl (lv_at hl 2 rfl) ?_
                              refine cx_iconst hx hb d_MO_may_218 ?_
                              refine cx_icmp_eq (tgt := 227) hx hb d_MO_may_219 rfl (by omega) (by omega) (fun h219 => ?_) (fun h219 => ?_)
                              · refine cx_iconst hx hb d_MO_may_227 ?_
                                refine lv_goto (tgt := 232) hx hb d_MO_may_228 rfl ?_
                                exact hret () (Or.inr rfl) (Or.inl ⟨rfl, by unfold alv; omega⟩) hP hD hS d_MO_may_232
                              · refine lv_iload_n hx hb d_MO_may_222 rfl (lv_at hl 2 rfl) ?_
                                refine cx_iconst hx hb d_MO_may_223 ?_
                                refine cx_icmp_ne (tgt := 231) hx hb d_MO_may_224 rfl (by omega) (by omega) (fun h224 => ?_) (fun h224 => ?_)
                                · refine cx_iconst hx hb d_MO_may_231 ?_
                                  exact hret () (Or.inl rfl) (Or.inr ⟨rfl, by unfold alv; omega⟩) hP hD hS d_MO_may_232
                                · refine cx_iconst hx hb d_MO_may_227 ?_
                                  refine lv_goto (tgt := 232) hx hb d_MO_may_228 rfl ?_
                                  exact hret () (Or.inr rfl) (Or.inl ⟨rfl, by unfold alv; omega⟩) hP hD hS d_MO_may_232
                        by_cases hs233 : z = 40 ∨ z = 56
                        · refine cx_lsw (tgt := 233) (off := 147) hx hb d_MO_may_86 (by omega) (by rw [hk9]; exact sw_may_233 k9 (by omega)) rfl ?_
                          refine lv_iload_n hx hb d_MO_may_233 rfl (lv_at hl 2 rfl) ?_
                          refine cx_iconst hx hb d_MO_may_234 ?_
                          refine cx_icmp_ne (tgt := 242) hx hb d_MO_may_235 rfl (by omega) (by omega) (fun h235 => ?_) (fun h235 => ?_)
                          · refine cx_iconst hx hb d_MO_may_242 ?_
                            exact hret () (Or.inl rfl) (Or.inr ⟨rfl, by unfold alv; omega⟩) hP hD hS d_MO_may_243
                          · refine cx_iconst hx hb d_MO_may_238 ?_
                            refine lv_goto (tgt := 243) hx hb d_MO_may_239 rfl ?_
                            exact hret () (Or.inr rfl) (Or.inl ⟨rfl, by unfold alv; omega⟩) hP hD hS d_MO_may_243
                        by_cases hs244 : z = 37
                        · refine cx_lsw (tgt := 244) (off := 158) hx hb d_MO_may_86 (by omega) (by rw [hk9]; exact sw_may_244 k9 (by omega)) rfl ?_
                          refine lv_iload_n hx hb d_MO_may_244 rfl (lv_at hl 0 rfl) ?_
                          refine cx_if_ne (tgt := 264) hx hb d_MO_may_245 rfl (by omega) (fun h245 => ?_) (fun h245 => ?_)
                          · refine cx_iconst hx hb d_MO_may_264 ?_
                            refine lv_goto (tgt := 269) hx hb d_MO_may_265 rfl ?_
                            exact hret () (Or.inr rfl) (Or.inl ⟨rfl, by unfold alv; omega⟩) hP hD hS d_MO_may_269
                          · refine lv_iload_n hx hb d_MO_may_248 rfl (lv_at hl 2 rfl) ?_
                            refine cx_iconst hx hb d_MO_may_249 ?_
                            refine cx_icmp_eq (tgt := 264) hx hb d_MO_may_250 rfl (by omega) (by omega) (fun h250 => ?_) (fun h250 => ?_)
                            · refine cx_iconst hx hb d_MO_may_264 ?_
                              refine lv_goto (tgt := 269) hx hb d_MO_may_265 rfl ?_
                              exact hret () (Or.inr rfl) (Or.inl ⟨rfl, by unfold alv; omega⟩) hP hD hS d_MO_may_269
                            · refine lv_iload_n hx hb d_MO_may_253 rfl (lv_at hl 2 rfl) ?_
                              refine cx_iconst hx hb d_MO_may_254 ?_
                              refine cx_icmp_eq (tgt := 264) hx hb d_MO_may_255 rfl (by omega) (by omega) (fun h255 => ?_) (fun h255 => ?_)
                              · refine cx_iconst hx hb d_MO_may_264 ?_
                                refine lv_goto (tgt := 269) hx hb d_MO_may_265 rfl ?_
                                exact hret () (Or.inr rfl) (Or.inl ⟨rfl, by unfold alv; omega⟩) hP hD hS d_MO_may_269
                              · refine lv_iload_n hx hb d_MO_may_258 rfl (lv_at hl 2 rfl) ?_
                                refine cx_bipush hx hb d_MO_may_259 rfl ?_
                                refine cx_icmp_ne (tgt := 268) hx hb d_MO_may_261 rfl (by omega) (by omega) (fun h261 => ?_) (fun h261 => ?_)
                                · refine cx_iconst hx hb d_MO_may_268 ?_
                                  exact hret () (Or.inl rfl) (Or.inr ⟨rfl, by unfold alv; omega⟩) hP hD hS d_MO_may_269
                                · refine cx_iconst hx hb d_MO_may_264 ?_
                                  refine lv_goto (tgt := 269) hx hb d_MO_may_265 rfl ?_
                                  exact hret () (Or.inr rfl) (Or.inl ⟨rfl, by unfold alv; omega⟩) hP hD hS d_MO_may_269
                        by_cases hs270 : z = 59
                        · refine cx_lsw (tgt := 270) (off := 184) hx hb d_MO_may_86 (by omega) (by rw [hk9]; exact sw_may_270 k9 (by omega)) rfl ?_
                          refine lv_iload_n hx hb d_MO_may_270 rfl (lv_at hl 2 rfl) ?_
                          refine cx_iconst hx hb d_MO_may_271 ?_
                          refine cx_icmp_eq (tgt := 280) hx hb d_MO_may_272 rfl (by omega) (by omega) (fun h272 => ?_) (fun h272 => ?_)
                          · refine cx_iconst hx hb d_MO_may_280 ?_
                            refine lv_goto (tgt := 285) hx hb d_MO_may_281 rfl ?_
                            exact hret () (Or.inr rfl) (Or.inl ⟨rfl, by unfold alv; omega⟩) hP hD hS d_MO_may_285
                          · refine lv_iload_n hx hb d_MO_may_275 rfl (lv_at hl 2 rfl) ?_
                            refine cx_iconst hx hb d_MO_may_276 ?_
                            refine cx_icmp_ne (tgt := 284) hx hb d_MO_may_277 rfl (by omega) (by omega) (fun h277 => ?_) (fun h277 => ?_)
                            · refine cx_iconst hx hb d_MO_may_284 ?_
                              exact hret () (Or.inl rfl) (Or.inr ⟨rfl, by unfold alv; omega⟩) hP hD hS d_MO_may_285
                            · refine cx_iconst hx hb d_MO_may_280 ?_
                              refine lv_goto (tgt := 285) hx hb d_MO_may_281 rfl ?_
                              exact hret () (Or.inr rfl) (Or.inl ⟨rfl, by unfold alv; omega⟩) hP hD hS d_MO_may_285
                        refine cx_lsw (tgt := 286) (off := 200) hx hb d_MO_may_86 (by omega) (by rw [hk9]; exact sw_may_d k9 (by omega)) rfl ?_
                        refine cx_iconst hx hb d_MO_may_286 ?_
                        exact hret () (Or.inl rfl) (Or.inr ⟨rfl, by unfold alv; omega⟩) hP hD hS d_MO_may_287
                      · rcases hv21 with ⟨rfl, h21⟩ | ⟨rfl, h21⟩
                        · refine lv_iload_n hx hb d_MO_may_83 rfl (lv_at hl 0 rfl) ?_
                          exact hret () (Or.inr rfl) (Or.inl ⟨rfl, by unfold alv; omega⟩) hP hD hS d_MO_may_84
                        · refine lv_iload_n hx hb d_MO_may_83 rfl (lv_at hl 0 rfl) ?_
                          exact hret () (Or.inl rfl) (Or.inr ⟨rfl, by unfold alv; omega⟩) hP hD hS d_MO_may_84
  refine lv_iload_n hx hb d_MO_may_0 rfl (lv_at hl 1 rfl) ?_
  refine cx_iconst hx hb d_MO_may_1 ?_
  refine cx_icmp_eq (tgt := 16) hx hb d_MO_may_2 rfl (by omega) (by omega) (fun h2 => ?_) (fun h2 => ?_)
  · refine cx_iconst hx hb d_MO_may_16 ?_
    refine lv_goto (tgt := 21) hx hb d_MO_may_17 rfl ?_
    exact J21 1 (by omega)
  · refine lv_iload_n hx hb d_MO_may_5 rfl (lv_at hl 1 rfl) ?_
    refine cx_iconst hx hb d_MO_may_6 ?_
    refine cx_icmp_eq (tgt := 16) hx hb d_MO_may_7 rfl (by omega) (by omega) (fun h7 => ?_) (fun h7 => ?_)
    · refine cx_iconst hx hb d_MO_may_16 ?_
      refine lv_goto (tgt := 21) hx hb d_MO_may_17 rfl ?_
      exact J21 1 (by omega)
    · refine lv_iload_n hx hb d_MO_may_10 rfl (lv_at hl 1 rfl) ?_
      refine cx_bipush hx hb d_MO_may_11 rfl ?_
      refine cx_icmp_ne (tgt := 20) hx hb d_MO_may_13 rfl (by omega) (by omega) (fun h13 => ?_) (fun h13 => ?_)
      · refine cx_iconst hx hb d_MO_may_20 ?_
        exact J21 0 (by omega)
      · refine cx_iconst hx hb d_MO_may_16 ?_
        refine lv_goto (tgt := 21) hx hb d_MO_may_17 rfl ?_
        exact J21 1 (by omega)

set_option maxHeartbeats 4000000 in
set_option maxRecDepth 100000 in
theorem c_MO_fetch (l : Launch) (D : va_G) (T : Nat → ClassId) (sz : Nat) (q : Nat → Nat) (n : Nat) (hn : 400 ≤ n ∧ n ≤ 2000) (x y : SX) (hX : okX x) : MI l y_MO_fetch (wY y_MO_fetch b_MO_fetch 3 (some .int)) (rmK 2) D vwCl (tyL T) nwL sz [.ref (q 20)] (moW T q n (x 0) (x 1) (mkF (x 2) (x 18 0)) (cdF (x 2) (x 18 0)) (x 3) (x 4) (x 11 0) (x 12 0) (x 13 0) (x 14 0) (x 15 0) (x 16 0) (x 17 0) (x 18 0) (x 19 0) (x 20 0) (x 21 0) (x 22 0) (y 31 0) (y 32 0) (y 33 0) (y 34 0) (y 35 0) (y 36 0) (y 37) (y 38) (y 39)) (fun r (u : SX × SX) => (∃ f : Int, r = iI f ∧ (f = 1 ∨ f = 2 ∨ f = 3) ∧ stpS n x = (f, x) ∧ u = (x, y)) ∨ (∃ k : Int, r = iI 0 ∧ ((1 ≤ k ∧ k ≤ 8) ∧ (0 ≤ x 11 0 ∧ x 11 0 + k < n)) ∧ alv (x 0 (x 11 0)) k ∧ stpS n x = perS n (x 0 (x 11 0)) k (x 12 0) (takS (x 0 (x 11 0)) k x) ∧ u = (takS (x 0 (x 11 0)) k x, ftY (x 0 (x 11 0)) k (x 11 0) (x 12 0) (x 13 0) y) ∧ okX u.1)) (fun (u : SX × SX) => moX T q n u.1 u.2) := by
  refine cx_inI (by decide) rfl (Nat.le_of_ble_eq_true rfl) ?_
  intro p e s m below meth cd ls A Q hx hb hml hT hown hret hP hK hD hN hS hA hl
  have hown : s.vm.findClass R_MO = some m.cls := hown
  have hl : lv_has ls 3 [(0, .ref (q 20))] := hl
  have hC := hX.1
  have hR0 := hX.2.1
  have hF := hX.2.2
  unfold okR at hR0
  refine lv_aload_n hx hb d_MO_fetch_0 rfl (lv_at hl 0 rfl) ?_
  refine lv_aload_n hx hb d_MO_fetch_1 rfl (lv_at hl 0 rfl) ?_
  refine va_get (D := D) (ci := 5) (v := .int (iI (x 11 0))) (C := R_MO) (T := T_MO) (N := 28) hx hb hT lays_MO hown hK hP 0 rfl rfl 4 (by decide) (hT _ tw_640) (fun _ h9 => h9) rfl d_MO_fetch_2 ?_
  refine cx_cI (ws2 := fun _ => moW T q n (x 0) (x 1) (mkF (x 2) (x 18 0)) (cdF (x 2) (x 18 0)) (x 3) (x 4) (x 11 0) (x 12 0) (x 13 0) (x 14 0) (x 15 0) (x 16 0) (x 17 0) (x 18 0) (x 19 0) (x 20 0) (x 21 0) (x 22 0) (y 31 0) (y 32 0) (y 33 0) (y 34 0) (y 35 0) (y 36 0) (y 37) (y 38) (y 39)) (cx_rV (q0 := 0) (ci := 5) (rest := []) (As := [.int (iI (x 11 0))]) hx hb hml hown hT hK hN hP hD hl.1 tw_731 k_MO_is (c_MO_is l D T s.heap.size q n hn x y hX (x 11 0) (by omega)) ⟨by decide, by decide⟩ ⟨rfl, rfl⟩ [0, 1, 2, 3, 4, 5, 6, 7, 8, 9] (by decide) rfl rfl rfl rfl rfl (Nat.le_of_ble_eq_true rfl) ⟨Nat.zero_le _, Nat.zero_le _⟩ d_MO_fetch_5) hP hD hS hA [0, 1, 2, 3, 4, 5, 6, 7, 8, 9] [] [0, 1, 2, 3, 4, 5, 6, 7, 8, 9] rfl (wr := []) rfl (by decide) (by decide) (fun _ => rfl) (by decide) (fun r u_ H locs hq5 hP hD hS => ?_)
  rcases hq5 with ⟨rfl, h5⟩ | ⟨rfl, h5⟩
  · refine cx_if_ne (tgt := 13) hx hb d_MO_fetch_8 rfl (by omega) (fun _ => ?_) (fun h0 => absurd h0 (by decide))
    refine lv_aload_n hx hb d_MO_fetch_13 rfl (lv_at hl 0 rfl) ?_
    refine va_get (D := D) (ci := 5) (v := .ref (q 22)) (C := R_MO) (T := T_MO) (N := 28) hx hb hT lays_MO hown hK hP 0 rfl rfl 3 (by decide) (hT _ tw_639) (fun _ h9 => h9) rfl d_MO_fetch_14 ?_
    refine lv_aload_n hx hb d_MO_fetch_17 rfl (lv_at hl 0 rfl) ?_
    refine va_get (D := D) (ci := 5) (v := .int (iI (x 11 0))) (C := R_MO) (T := T_MO) (N := 28) hx hb hT lays_MO hown hK hP 0 rfl rfl 4 (by decide) (hT _ tw_640) (fun _ h9 => h9) rfl d_MO_fetch_18 ?_
    refine cx_zald (g := iF (x 1)) hx hb hK hP 2 2 rfl rfl (by omega) (by omega) d_MO_fetch_21 ?_
    have hm21 := hC.2 (x 11 0)
    refine cx_if_ne (tgt := 27) hx hb d_MO_fetch_22 rfl (by omega) (fun h22 => ?_) (fun h22 => ?_)
    · refine cx_iconst hx hb d_MO_fetch_27 ?_
      refine lv_istore_n (lv' := [(1, .int (iI (1))), (0, .ref (q 20))]) hx hb d_MO_fetch_28 rfl hl (by decide) rfl (fun ls hl => ?_)
      have L1 : ∀ (k_ : Nat) (j : Int) (H : Heap) (locs : List Loc) (ls : Array Slot), (1 ≤ j ∧ j + k_ = 10) → (ins n (x 1) (x 11 0) 9 1 = ins n (x 1) (x 11 0) k_ j) → va_P D vwCl (moW T q n (x 0) (x 1) (mkF (x 2) (x 18 0)) (cdF (x 2) (x 18 0)) (x 3) (x 4) (x 11 0) (x 12 0) (x 13 0) (x 14 0) (x 15 0) (x 16 0) (x 17 0) (x 18 0) (x 19 0) (x 20 0) (x 21 0) (x 22 0) (y 31 0) (y 32 0) (y 33 0) (y 34 0) (y 35 0) (y 36 0) (y 37) (y 38) (y 39)) H → va_D A (moW T q n (x 0) (x 1) (mkF (x 2) (x 18 0)) (cdF (x 2) (x 18 0)) (x 3) (x 4) (x 11 0) (x 12 0) (x 13 0) (x 14 0) (x 15 0) (x 16 0) (x 17 0) (x 18 0) (x 19 0) (x 20 0) (x 21 0) (x 22 0) (y 31 0) (y 32 0) (y 33 0) (y 34 0) (y 35 0) (y 36 0) (y 37) (y 38) (y 39)) → va_S A s.heap H locs → lv_has ls 3 [(1, .int (iI (j))), (0, .ref (q 20))] → W p l e (rmK 2) s m ([.ref (q 20)] : List Value).toArray below meth cd H locs 0 0 Q (F0 m 29 ls []) := by
        intro k_
        induction k_ with
        | zero => intro j H locs ls hj hf _ _ _ _; exact absurd hj (by omega)
        | succ k_ ih1 =>
          intro j H locs ls hj hf hP hD hS hl
          refine lv_iload_n hx hb d_MO_fetch_29 rfl (lv_at hl 0 rfl) ?_
          refine cx_bipush hx hb d_MO_fetch_30 rfl ?_
          refine cx_icmp_ge (tgt := 85) hx hb d_MO_fetch_32 rfl (by omega) (by omega) (fun h32 => ?_) (fun h32 => ?_)
          · refine lv_iload_n hx hb d_MO_fetch_85 rfl (lv_at hl 0 rfl) ?_
            refine cx_bipush hx hb d_MO_fetch_86 rfl ?_
            refine cx_icmp_eq (tgt := 120) hx hb d_MO_fetch_88 rfl (by omega) (by omega) (fun h88 => ?_) (fun h88 => ?_)
            · refine cx_iconst hx hb d_MO_fetch_120 ?_
              exact hret ((x, y) : SX × SX) (Or.inl ⟨3, rfl, by decide, by unfold stpS; rw [if_pos (by omega), if_pos (by omega)]; unfold stpK; rw [show ins n (x 1) (x 11 0) 9 1 = 0 by rw [hf, ins, if_neg (by omega)], if_pos rfl], rfl⟩) hP hD hS d_MO_fetch_121
            · exfalso; omega
          · refine lv_aload_n hx hb d_MO_fetch_35 rfl (lv_at hl 1 rfl) ?_
            refine lv_aload_n hx hb d_MO_fetch_36 rfl (lv_at hl 1 rfl) ?_
            refine va_get (D := D) (ci := 5) (v := .int (iI (x 11 0))) (C := R_MO) (T := T_MO) (N := 28) hx hb hT lays_MO hown hK hP 0 rfl rfl 4 (by decide) (hT _ tw_640) (fun _ h9 => h9) rfl d_MO_fetch_37 ?_
            refine lv_iload_n hx hb d_MO_fetch_40 rfl (lv_at hl 0 rfl) ?_
            refine cx_iadd hx hb d_MO_fetch_41 ?_
            refine cx_cI (ws2 := fun _ => moW T q n (x 0) (x 1) (mkF (x 2) (x 18 0)) (cdF (x 2) (x 18 0)) (x 3) (x 4) (x 11 0) (x 12 0) (x 13 0) (x 14 0) (x 15 0) (x 16 0) (x 17 0) (x 18 0) (x 19 0) (x 20 0) (x 21 0) (x 22 0) (y 31 0) (y 32 0) (y 33 0) (y 34 0) (y 35 0) (y 36 0) (y 37) (y 38) (y 39)) (cx_rV (q0 := 0) (ci := 5) (rest := []) (As := [.int (iI ((x 11 0) + j))]) hx hb hml hown hT hK hN hP hD hl.1 tw_731 k_MO_is (c_MO_is l D T H.size q n hn x y hX ((x 11 0) + j) (by omega)) ⟨by decide, by decide⟩ ⟨rfl, rfl⟩ [0, 1, 2, 3, 4, 5, 6, 7, 8, 9] (by decide) rfl rfl rfl rfl rfl (Nat.le_of_ble_eq_true rfl) ⟨Nat.zero_le _, Nat.zero_le _⟩ d_MO_fetch_42) hP hD hS hA [0, 1, 2, 3, 4, 5, 6, 7, 8, 9] [] [0, 1, 2, 3, 4, 5, 6, 7, 8, 9] rfl (wr := []) rfl (by decide) (by decide) (fun _ => rfl) (by decide) (fun r u_ H locs hq42 hP hD hS => ?_)
            rcases hq42 with ⟨rfl, h42⟩ | ⟨rfl, h42⟩
            · refine cx_if_eq (tgt := 85) hx hb d_MO_fetch_45 rfl (by omega) (fun h0 => absurd h0 (by decide)) (fun _ => ?_)
              refine lv_aload_n hx hb d_MO_fetch_48 rfl (lv_at hl 1 rfl) ?_
              refine va_get (D := D) (ci := 5) (v := .ref (q 22)) (C := R_MO) (T := T_MO) (N := 28) hx hb hT lays_MO hown hK hP 0 rfl rfl 3 (by decide) (hT _ tw_639) (fun _ h9 => h9) rfl d_MO_fetch_49 ?_
              refine lv_aload_n hx hb d_MO_fetch_52 rfl (lv_at hl 1 rfl) ?_
              refine lv_aload_n hx hb d_MO_fetch_53 rfl (lv_at hl 1 rfl) ?_
              refine va_get (D := D) (ci := 5) (v := .int (iI (x 11 0))) (C := R_MO) (T := T_MO) (N := 28) hx hb hT lays_MO hown hK hP 0 rfl rfl 4 (by decide) (hT _ tw_640) (fun _ h9 => h9) rfl d_MO_fetch_54 ?_
              refine lv_iload_n hx hb d_MO_fetch_57 rfl (lv_at hl 0 rfl) ?_
              refine cx_iadd hx hb d_MO_fetch_58 ?_
              refine cx_cI (ws2 := fun _ => moW T q n (x 0) (x 1) (mkF (x 2) (x 18 0)) (cdF (x 2) (x 18 0)) (x 3) (x 4) (x 11 0) (x 12 0) (x 13 0) (x 14 0) (x 15 0) (x 16 0) (x 17 0) (x 18 0) (x 19 0) (x 20 0) (x 21 0) (x 22 0) (y 31 0) (y 32 0) (y 33 0) (y 34 0) (y 35 0) (y 36 0) (y 37) (y 38) (y 39)) (cx_rV (q0 := 0) (ci := 5) (rest := [.ref (q 22)]) (As := [.int (iI ((x 11 0) + j))]) hx hb hml hown hT hK hN hP hD hl.1 tw_731 k_MO_is (c_MO_is l D T H.size q n hn x y hX ((x 11 0) + j) (by omega)) ⟨by decide, by decide⟩ ⟨rfl, rfl⟩ [0, 1, 2, 3, 4, 5, 6, 7, 8, 9] (by decide) rfl rfl rfl rfl rfl (Nat.le_of_ble_eq_true rfl) ⟨Nat.zero_le _, Nat.zero_le _⟩ d_MO_fetch_59) hP hD hS hA [0, 1, 2, 3, 4, 5, 6, 7, 8, 9] [] [0, 1, 2, 3, 4, 5, 6, 7, 8, 9] rfl (wr := []) rfl (by decide) (by decide) (fun _ => rfl) (by decide) (fun r u_ H locs hq59 hP hD hS => ?_)
              rcases hq59 with ⟨rfl, h59⟩ | ⟨rfl, h59⟩
              · refine cx_if_eq (tgt := 74) hx hb d_MO_fetch_62 rfl (by omega) (fun h0 => absurd h0 (by decide)) (fun _ => ?_)
                refine lv_aload_n hx hb d_MO_fetch_65 rfl (lv_at hl 1 rfl) ?_
                refine va_get (D := D) (ci := 5) (v := .int (iI (x 11 0))) (C := R_MO) (T := T_MO) (N := 28) hx hb hT lays_MO hown hK hP 0 rfl rfl 4 (by decide) (hT _ tw_640) (fun _ h9 => h9) rfl d_MO_fetch_66 ?_
                refine lv_iload_n hx hb d_MO_fetch_69 rfl (lv_at hl 0 rfl) ?_
                refine cx_iadd hx hb d_MO_fetch_70 ?_
                refine lv_goto (tgt := 75) hx hb d_MO_fetch_71 rfl ?_
                refine cx_zald (g := iF (x 1)) hx hb hK hP 2 2 rfl rfl (by omega) (by omega) d_MO_fetch_75 ?_
                have hm75 := hC.2 ((x 11 0) + j)
                refine cx_if_ne (tgt := 85) hx hb d_MO_fetch_76 rfl (by omega) (fun h76 => ?_) (fun h76 => ?_)
                · refine lv_iload_n hx hb d_MO_fetch_85 rfl (lv_at hl 0 rfl) ?_
                  refine cx_bipush hx hb d_MO_fetch_86 rfl ?_
                  refine cx_icmp_eq (tgt := 120) hx hb d_MO_fetch_88 rfl (by omega) (by omega) (fun h88 => ?_) (fun h88 => ?_)
                  · exfalso; omega
                  · refine lv_aload_n hx hb d_MO_fetch_91 rfl (lv_at hl 1 rfl) ?_
                    refine lv_aload_n hx hb d_MO_fetch_92 rfl (lv_at hl 1 rfl) ?_
                    refine va_get (D := D) (ci := 5) (v := .int (iI (x 11 0))) (C := R_MO) (T := T_MO) (N := 28) hx hb hT lays_MO hown hK hP 0 rfl rfl 4 (by decide) (hT _ tw_640) (fun _ h9 => h9) rfl d_MO_fetch_93 ?_
                    refine lv_iload_n hx hb d_MO_fetch_96 rfl (lv_at hl 0 rfl) ?_
                    refine cx_iadd hx hb d_MO_fetch_97 ?_
                    refine cx_cI (ws2 := fun _ => moW T q n (x 0) (x 1) (mkF (x 2) (x 18 0)) (cdF (x 2) (x 18 0)) (x 3) (x 4) (x 11 0) (x 12 0) (x 13 0) (x 14 0) (x 15 0) (x 16 0) (x 17 0) (x 18 0) (x 19 0) (x 20 0) (x 21 0) (x 22 0) (y 31 0) (y 32 0) (y 33 0) (y 34 0) (y 35 0) (y 36 0) (y 37) (y 38) (y 39)) (cx_rV (q0 := 0) (ci := 5) (rest := []) (As := [.int (iI ((x 11 0) + j))]) hx hb hml hown hT hK hN hP hD hl.1 tw_731 k_MO_is (c_MO_is l D T H.size q n hn x y hX ((x 11 0) + j) (by omega)) ⟨by decide, by decide⟩ ⟨rfl, rfl⟩ [0, 1, 2, 3, 4, 5, 6, 7, 8, 9] (by decide) rfl rfl rfl rfl rfl (Nat.le_of_ble_eq_true rfl) ⟨Nat.zero_le _, Nat.zero_le _⟩ d_MO_fetch_98) hP hD hS hA [0, 1, 2, 3, 4, 5, 6, 7, 8, 9] [] [0, 1, 2, 3, 4, 5, 6, 7, 8, 9] rfl (wr := []) rfl (by decide) (by decide) (fun _ => rfl) (by decide) (fun r u_ H locs hq98 hP hD hS => ?_)
                    rcases hq98 with ⟨rfl, h98⟩ | ⟨rfl, h98⟩
                    · refine cx_if_eq (tgt := 120) hx hb d_MO_fetch_101 rfl (by omega) (fun h0 => absurd h0 (by decide)) (fun _ => ?_)
                      have hk : ins n (x 1) (x 11 0) 9 1 = j := by rw [hf, ins, if_pos (by omega), if_pos (by omega)]
                      have hcO := hC.1 (x 11 0)
                      refine lv_aload_n hx hb d_MO_fetch_104 rfl (lv_at hl 1 rfl) ?_
                      refine va_get (D := D) (ci := 5) (v := .ref (q 21)) (C := R_MO) (T := T_MO) (N := 28) hx hb hT lays_MO hown hK hP 0 rfl rfl 2 (by decide) (hT _ tw_638) (fun _ h9 => h9) rfl d_MO_fetch_105 ?_
                      refine lv_aload_n hx hb d_MO_fetch_108 rfl (lv_at hl 1 rfl) ?_
                      refine va_get (D := D) (ci := 5) (v := .int (iI (x 11 0))) (C := R_MO) (T := T_MO) (N := 28) hx hb hT lays_MO hown hK hP 0 rfl rfl 4 (by decide) (hT _ tw_640) (fun _ h9 => h9) rfl d_MO_fetch_109 ?_
                      refine cx_bald (g := iF (x 0)) hx hb hK hP 1 1 rfl rfl (by omega) (by omega) d_MO_fetch_112 ?_
                      have hc112 := hC.1 (x 11 0)
                      refine lv_iload_n hx hb d_MO_fetch_113 rfl (lv_at hl 0 rfl) ?_
                      refine cx_cI (ws2 := fun _ => moW T q n (x 0) (x 1) (mkF (x 2) (x 18 0)) (cdF (x 2) (x 18 0)) (x 3) (x 4) (x 11 0) (x 12 0) (x 13 0) (x 14 0) (x 15 0) (x 16 0) (x 17 0) (x 18 0) (x 19 0) (x 20 0) (x 21 0) (x 22 0) (y 31 0) (y 32 0) (y 33 0) (y 34 0) (y 35 0) (y 36 0) (y 37) (y 38) (y 39)) (cx_rS (rest := []) (As := [.int (iI ((x 0) (x 11 0))), .int (iI (j))]) hx hb hml hown hT hK hN hP hD hl.1 tw_765 k_MO_may (c_MO_may l D T H.size ((x 0) (x 11 0)) (by omega) j (by omega)) ⟨by decide, by decide⟩ ⟨rfl, rfl⟩ [] (by decide) rfl rfl rfl (Nat.le_of_ble_eq_true rfl) ⟨Nat.zero_le _, Nat.zero_le _⟩ d_MO_fetch_114) hP hD hS hA [] [0, 1, 2, 3, 4, 5, 6, 7, 8, 9] [0, 1, 2, 3, 4, 5, 6, 7, 8, 9] rfl (wr := [(q 20, .inr (5, [.int (iI (y 31 0)), .int (iI ((n : Int))), .ref (q 21), .ref (q 22), .int (iI (x 11 0)), .int (iI (x 12 0)), .int (iI (x 13 0)), .int (iI (x 14 0)), .int (iI (x 15 0)), .int (iI (x 16 0)), .int (iI (x 21 0)), .int (iI (x 22 0)), .int (iI (y 32 0)), .int (iI (y 33 0)), .int (iI (y 34 0)), .int (iI (y 35 0)), .int (iI (y 36 0)), .ref (q 23), .int (iI (x 18 0)), .int (iI (x 17 0)), .ref (q 24), .int (iI (x 19 0)), .ref (q 25), .int (iI (x 20 0)), .ref (q 26), .ref (q 27), .ref (q 28), .ref (q 29)])), (q 21, .inl (T 1, 2000, .inl (fun jj : Nat => (iF (x 0)) (jj : Int)))), (q 22, .inl (T 2, 2000, .inl (fun jj : Nat => (iF (x 1)) (jj : Int)))), (q 23, .inl (T 1, 80, .inl (fun jj : Nat => (iF (mkF (x 2) (x 18 0))) (jj : Int)))), (q 24, .inl (T 1, 1600, .inl (fun jj : Nat => (iF (cdF (x 2) (x 18 0))) (jj : Int)))), (q 25, .inl (T 1, 5280, .inl (fun jj : Nat => (iF (x 3)) (jj : Int)))), (q 26, .inl (T 1, 1600, .inl (fun jj : Nat => (iF (x 4)) (jj : Int)))), (q 27, .inl (T 0, 2000, .inl (fun jj : Nat => (iF (y 37)) (jj : Int)))), (q 28, .inl (T 0, 2000, .inl (fun jj : Nat => (iF (y 38)) (jj : Int)))), (q 29, .inl (T 1, 2000, .inl (fun jj : Nat => (iF (y 39)) (jj : Int))))]) rfl (by decide) (by decide) (fun _ => rfl) (by decide) (fun r u_ H locs hq114 hP hD hS => ?_)
                      rcases hq114 with ⟨rfl, h114⟩ | ⟨rfl, h114⟩
                      · refine cx_if_ne (tgt := 122) hx hb d_MO_fetch_117 rfl (by omega) (fun _ => ?_) (fun h0 => absurd h0 (by decide))
                        have ha1 := adr_in hC (x 11 0 + 1)
                        have ha4 := adr_in hC (x 11 0 + 4)
                        refine lv_aload_n hx hb d_MO_fetch_122 rfl (lv_at hl 1 rfl) ?_
                        refine lv_aload_n hx hb d_MO_fetch_123 rfl (lv_at hl 1 rfl) ?_
                        refine va_get (D := D) (ci := 5) (v := .int (iI (x 11 0))) (C := R_MO) (T := T_MO) (N := 28) hx hb hT lays_MO hown hK hP 0 rfl rfl 4 (by decide) (hT _ tw_640) (fun _ h9 => h9) rfl d_MO_fetch_124 ?_
                        refine va_put (D := D) (ci := 5) (v := .int (iI (x 11 0))) (ty := .int) (C := R_MO) (T := T_MO) (N := 28) hx hb hT lays_MO t_MO t_MO_ok n_MO hown hK hP hD hS 0 rfl rfl 14 (by decide) (hT _ tw_650) (fun _ h9 => h9) rfl (by decide +kernel) rfl rfl (Nat.le_of_ble_eq_true rfl) d_MO_fetch_127 (fun H locs hP hD hS => ?_)
                        have hP : va_P D vwCl (moW T q n (x 0) (x 1) (mkF (x 2) (x 18 0)) (cdF (x 2) (x 18 0)) (x 3) (x 4) (x 11 0) (x 12 0) (x 13 0) (x 14 0) (x 15 0) (x 16 0) (x 17 0) (x 18 0) (x 19 0) (x 20 0) (x 21 0) (x 22 0) (y 31 0) (y 32 0) (y 33 0) (x 11 0) (y 35 0) (y 36 0) (y 37) (y 38) (y 39)) H := hP
                        have hD : va_D A (moW T q n (x 0) (x 1) (mkF (x 2) (x 18 0)) (cdF (x 2) (x 18 0)) (x 3) (x 4) (x 11 0) (x 12 0) (x 13 0) (x 14 0) (x 15 0) (x 16 0) (x 17 0) (x 18 0) (x 19 0) (x 20 0) (x 21 0) (x 22 0) (y 31 0) (y 32 0) (y 33 0) (x 11 0) (y 35 0) (y 36 0) (y 37) (y 38) (y 39)) := hD
                        refine lv_aload_n hx hb d_MO_fetch_130 rfl (lv_at hl 1 rfl) ?_
                        refine lv_iload_n hx hb d_MO_fetch_131 rfl (lv_at hl 0 rfl) ?_
                        refine va_put (D := D) (ci := 5) (v := .int (iI (j))) (ty := .int) (C := R_MO) (T := T_MO) (N := 28) hx hb hT lays_MO t_MO t_MO_ok n_MO hown hK hP hD hS 0 rfl rfl 13 (by decide) (hT _ tw_649) (fun _ h9 => h9) rfl (by decide +kernel) rfl rfl (Nat.le_of_ble_eq_true rfl) d_MO_fetch_132 (fun H locs hP hD hS => ?_)
                        have hP : va_P D vwCl (moW T q n (x 0) (x 1) (mkF (x 2) (x 18 0)) (cdF (x 2) (x 18 0)) (x 3) (x 4) (x 11 0) (x 12 0) (x 13 0) (x 14 0) (x 15 0) (x 16 0) (x 17 0) (x 18 0) (x 19 0) (x 20 0) (x 21 0) (x 22 0) (y 31 0) (y 32 0) j (x 11 0) (y 35 0) (y 36 0) (y 37) (y 38) (y 39)) H := hP
                        have hD : va_D A (moW T q n (x 0) (x 1) (mkF (x 2) (x 18 0)) (cdF (x 2) (x 18 0)) (x 3) (x 4) (x 11 0) (x 12 0) (x 13 0) (x 14 0) (x 15 0) (x 16 0) (x 17 0) (x 18 0) (x 19 0) (x 20 0) (x 21 0) (x 22 0) (y 31 0) (y 32 0) j (x 11 0) (y 35 0) (y 36 0) (y 37) (y 38) (y 39)) := hD
                        refine lv_aload_n hx hb d_MO_fetch_135 rfl (lv_at hl 1 rfl) ?_
                        refine lv_aload_n hx hb d_MO_fetch_136 rfl (lv_at hl 1 rfl) ?_
                        refine va_get (D := D) (ci := 5) (v := .ref (q 21)) (C := R_MO) (T := T_MO) (N := 28) hx hb hT lays_MO hown hK hP 0 rfl rfl 2 (by decide) (hT _ tw_638) (fun _ h9 => h9) rfl d_MO_fetch_137 ?_
                        refine lv_aload_n hx hb d_MO_fetch_140 rfl (lv_at hl 1 rfl) ?_
                        refine va_get (D := D) (ci := 5) (v := .int (iI (x 11 0))) (C := R_MO) (T := T_MO) (N := 28) hx hb hT lays_MO hown hK hP 0 rfl rfl 4 (by decide) (hT _ tw_640) (fun _ h9 => h9) rfl d_MO_fetch_141 ?_
                        refine cx_bald (g := iF (x 0)) hx hb hK hP 1 1 rfl rfl (by omega) (by omega) d_MO_fetch_144 ?_
                        have hc144 := hC.1 (x 11 0)
                        refine va_put (D := D) (ci := 5) (v := .int (iI ((x 0) (x 11 0)))) (ty := .int) (C := R_MO) (T := T_MO) (N := 28) hx hb hT lays_MO t_MO t_MO_ok n_MO hown hK hP hD hS 0 rfl rfl 12 (by decide) (hT _ tw_648) (fun _ h9 => h9) rfl (by decide +kernel) rfl rfl (Nat.le_of_ble_eq_true rfl) d_MO_fetch_145 (fun H locs hP hD hS => ?_)
                        have hP : va_P D vwCl (moW T q n (x 0) (x 1) (mkF (x 2) (x 18 0)) (cdF (x 2) (x 18 0)) (x 3) (x 4) (x 11 0) (x 12 0) (x 13 0) (x 14 0) (x 15 0) (x 16 0) (x 17 0) (x 18 0) (x 19 0) (x 20 0) (x 21 0) (x 22 0) (y 31 0) ((x 0) (x 11 0)) j (x 11 0) (y 35 0) (y 36 0) (y 37) (y 38) (y 39)) H := hP
                        have hD : va_D A (moW T q n (x 0) (x 1) (mkF (x 2) (x 18 0)) (cdF (x 2) (x 18 0)) (x 3) (x 4) (x 11 0) (x 12 0) (x 13 0) (x 14 0) (x 15 0) (x 16 0) (x 17 0) (x 18 0) (x 19 0) (x 20 0) (x 21 0) (x 22 0) (y 31 0) ((x 0) (x 11 0)) j (x 11 0) (y 35 0) (y 36 0) (y 37) (y 38) (y 39)) := hD
                        refine lv_aload_n hx hb d_MO_fetch_148 rfl (lv_at hl 1 rfl) ?_
                        refine lv_aload_n hx hb d_MO_fetch_149 rfl (lv_at hl 1 rfl) ?_
                        refine va_get (D := D) (ci := 5) (v := .int (iI (x 12 0))) (C := R_MO) (T := T_MO) (N := 28) hx hb hT lays_MO hown hK hP 0 rfl rfl 5 (by decide) (hT _ tw_641) (fun _ h9 => h9) rfl d_MO_fetch_150 ?_
                        refine va_put (D := D) (ci := 5) (v := .int (iI (x 12 0))) (ty := .int) (C := R_MO) (T := T_MO) (N := 28) hx hb hT lays_MO t_MO t_MO_ok n_MO hown hK hP hD hS 0 rfl rfl 15 (by decide) (hT _ tw_651) (fun _ h9 => h9) rfl (by decide +kernel) rfl rfl (Nat.le_of_ble_eq_true rfl) d_MO_fetch_153 (fun H locs hP hD hS => ?_)
                        have hP : va_P D vwCl (moW T q n (x 0) (x 1) (mkF (x 2) (x 18 0)) (cdF (x 2) (x 18 0)) (x 3) (x 4) (x 11 0) (x 12 0) (x 13 0) (x 14 0) (x 15 0) (x 16 0) (x 17 0) (x 18 0) (x 19 0) (x 20 0) (x 21 0) (x 22 0) (y 31 0) ((x 0) (x 11 0)) j (x 11 0) (x 12 0) (y 36 0) (y 37) (y 38) (y 39)) H := hP
                        have hD : va_D A (moW T q n (x 0) (x 1) (mkF (x 2) (x 18 0)) (cdF (x 2) (x 18 0)) (x 3) (x 4) (x 11 0) (x 12 0) (x 13 0) (x 14 0) (x 15 0) (x 16 0) (x 17 0) (x 18 0) (x 19 0) (x 20 0) (x 21 0) (x 22 0) (y 31 0) ((x 0) (x 11 0)) j (x 11 0) (x 12 0) (y 36 0) (y 37) (y 38) (y 39)) := hD
                        refine lv_aload_n hx hb d_MO_fetch_156 rfl (lv_at hl 1 rfl) ?_
                        refine lv_aload_n hx hb d_MO_fetch_157 rfl (lv_at hl 1 rfl) ?_
                        refine va_get (D := D) (ci := 5) (v := .int (iI (x 13 0))) (C := R_MO) (T := T_MO) (N := 28) hx hb hT lays_MO hown hK hP 0 rfl rfl 6 (by decide) (hT _ tw_642) (fun _ h9 => h9) rfl d_MO_fetch_158 ?_
                        refine va_put (D := D) (ci := 5) (v := .int (iI (x 13 0))) (ty := .int) (C := R_MO) (T := T_MO) (N := 28) hx hb hT lays_MO t_MO t_MO_ok n_MO hown hK hP hD hS 0 rfl rfl 16 (by decide) (hT _ tw_652) (fun _ h9 => h9) rfl (by decide +kernel) rfl rfl (Nat.le_of_ble_eq_true rfl) d_MO_fetch_161 (fun H locs hP hD hS => ?_)
                        have hP : va_P D vwCl (moW T q n (x 0) (x 1) (mkF (x 2) (x 18 0)) (cdF (x 2) (x 18 0)) (x 3) (x 4) (x 11 0) (x 12 0) (x 13 0) (x 14 0) (x 15 0) (x 16 0) (x 17 0) (x 18 0) (x 19 0) (x 20 0) (x 21 0) (x 22 0) (y 31 0) ((x 0) (x 11 0)) j (x 11 0) (x 12 0) (x 13 0) (y 37) (y 38) (y 39)) H := hP
                        have hD : va_D A (moW T q n (x 0) (x 1) (mkF (x 2) (x 18 0)) (cdF (x 2) (x 18 0)) (x 3) (x 4) (x 11 0) (x 12 0) (x 13 0) (x 14 0) (x 15 0) (x 16 0) (x 17 0) (x 18 0) (x 19 0) (x 20 0) (x 21 0) (x 22 0) (y 31 0) ((x 0) (x 11 0)) j (x 11 0) (x 12 0) (x 13 0) (y 37) (y 38) (y 39)) := hD
                        refine lv_aload_n hx hb d_MO_fetch_164 rfl (lv_at hl 1 rfl) ?_
                        refine lv_dup hx hb d_MO_fetch_165 rfl ?_
                        refine va_get (D := D) (ci := 5) (v := .int (iI (x 11 0))) (C := R_MO) (T := T_MO) (N := 28) hx hb hT lays_MO hown hK hP 0 rfl rfl 4 (by decide) (hT _ tw_640) (fun _ h9 => h9) rfl d_MO_fetch_166 ?_
                        refine lv_iload_n hx hb d_MO_fetch_169 rfl (lv_at hl 0 rfl) ?_
                        refine cx_iadd hx hb d_MO_fetch_170 ?_
                        refine va_put (D := D) (ci := 5) (v := .int (iI ((x 11 0) + j))) (ty := .int) (C := R_MO) (T := T_MO) (N := 28) hx hb hT lays_MO t_MO t_MO_ok n_MO hown hK hP hD hS 0 rfl rfl 4 (by decide) (hT _ tw_640) (fun _ h9 => h9) rfl (by decide +kernel) rfl rfl (Nat.le_of_ble_eq_true rfl) d_MO_fetch_171 (fun H locs hP hD hS => ?_)
                        have hP : va_P D vwCl (moW T q n (x 0) (x 1) (mkF (x 2) (x 18 0)) (cdF (x 2) (x 18 0)) (x 3) (x 4) ((x 11 0) + j) (x 12 0) (x 13 0) (x 14 0) (x 15 0) (x 16 0) (x 17 0) (x 18 0) (x 19 0) (x 20 0) (x 21 0) (x 22 0) (y 31 0) ((x 0) (x 11 0)) j (x 11 0) (x 12 0) (x 13 0) (y 37) (y 38) (y 39)) H := hP
                        have hD : va_D A (moW T q n (x 0) (x 1) (mkF (x 2) (x 18 0)) (cdF (x 2) (x 18 0)) (x 3) (x 4) ((x 11 0) + j) (x 12 0) (x 13 0) (x 14 0) (x 15 0) (x 16 0) (x 17 0) (x 18 0) (x 19 0) (x 20 0) (x 21 0) (x 22 0) (y 31 0) ((x 0) (x 11 0)) j (x 11 0) (x 12 0) (x 13 0) (y 37) (y 38) (y 39)) := hD
                        refine lv_iload_n hx hb d_MO_fetch_174 rfl (lv_at hl 0 rfl) ?_
                        refine cx_iconst hx hb d_MO_fetch_175 ?_
                        refine cx_icmp_lt (tgt := 193) hx hb d_MO_fetch_176 rfl (by omega) (by omega) (fun h176 => ?_) (fun h176 => ?_)
                        · have J252 : ∀ v252 : Int, ((v252 = 1 ∧ (x 0 (x 11 0) = 36 ∨ x 0 (x 11 0) = 35 ∨ x 0 (x 11 0) = 52 ∨ x 0 (x 11 0) = 24 ∨ x 0 (x 11 0) = 40 ∨ x 0 (x 11 0) = 56)) ∨ (v252 = 0 ∧ ¬ (x 0 (x 11 0) = 36 ∨ x 0 (x 11 0) = 35 ∨ x 0 (x 11 0) = 52 ∨ x 0 (x 11 0) = 24 ∨ x 0 (x 11 0) = 40 ∨ x 0 (x 11 0) = 56))) → W p l e (rmK 2) s m ([.ref (q 20)] : List Value).toArray below meth cd H locs 0 0 Q (F0 m 252 ls [.int (iI v252)]) := by
                            intro v252 hv252
                            refine lv_istore_n (lv' := [(2, .int (iI (v252))), (1, .int (iI (j))), (0, .ref (q 20))]) hx hb d_MO_fetch_252 rfl hl (by decide) rfl (fun ls hl => ?_)
                            refine lv_iload_n hx hb d_MO_fetch_253 rfl (lv_at hl 1 rfl) ?_
                            refine cx_bipush hx hb d_MO_fetch_254 rfl ?_
                            refine cx_icmp_lt (tgt := 276) hx hb d_MO_fetch_256 rfl (by omega) (by omega) (fun h256 => ?_) (fun h256 => ?_)
                            · refine lv_iload_n hx hb d_MO_fetch_276 rfl (lv_at hl 1 rfl) ?_
                              refine cx_iconst hx hb d_MO_fetch_277 ?_
                              refine cx_icmp_lt (tgt := 293) hx hb d_MO_fetch_278 rfl (by omega) (by omega) (fun h278 => ?_) (fun h278 => ?_)
                              · refine cx_iconst hx hb d_MO_fetch_293 ?_
                                exact hret (((up x 11 (cst ((x 11 0) + j))), (up (up (up (up (up y 32 (cst ((x 0) (x 11 0)))) 33 (cst j)) 34 (cst (x 11 0))) 35 (cst (x 12 0))) 36 (cst (x 13 0)))) : SX × SX) (Or.inr ⟨j, rfl, by omega, h114, by unfold stpS; rw [if_pos (by omega), if_pos (by omega)]; unfold stpK; rw [hk, if_neg (by omega), if_pos h114], by rw [show takS (x 0 (x 11 0)) j x = (up x 11 (cst ((x 11 0) + j))) by first | (exfalso; omega) | (unfold takS takA takB; repeat (first | rfl | (rw [if_pos (by omega)]) | (rw [if_neg (by omega)])))]; rfl, (show okX (up x 11 (cst ((x 11 0) + j))) from ⟨hX.1, (show okR ((x 11 0) + j) (x 12 0) (x 13 0) (x 14 0) (x 15 0) (x 16 0) (x 17 0) (x 18 0) (x 19 0) (x 20 0) by have h8 := hX.2.1; unfold okR at h8 ⊢; omega), hX.2.2⟩)⟩) hP hD hS d_MO_fetch_294
                              · refine lv_iload_n hx hb d_MO_fetch_281 rfl (lv_at hl 0 rfl) ?_
                                refine cx_if_ne (tgt := 293) hx hb d_MO_fetch_282 rfl (by omega) (fun h282 => ?_) (fun h282 => ?_)
                                · refine cx_iconst hx hb d_MO_fetch_293 ?_
                                  exact hret (((up x 11 (cst ((x 11 0) + j))), (up (up (up (up (up y 32 (cst ((x 0) (x 11 0)))) 33 (cst j)) 34 (cst (x 11 0))) 35 (cst (x 12 0))) 36 (cst (x 13 0)))) : SX × SX) (Or.inr ⟨j, rfl, by omega, h114, by unfold stpS; rw [if_pos (by omega), if_pos (by omega)]; unfold stpK; rw [hk, if_neg (by omega), if_pos h114], by rw [show takS (x 0 (x 11 0)) j x = (up x 11 (cst ((x 11 0) + j))) by first | (exfalso; omega) | (unfold takS takA takB; repeat (first | rfl | (rw [if_pos (by omega)]) | (rw [if_neg (by omega)])))]; rfl, (show okX (up x 11 (cst ((x 11 0) + j))) from ⟨hX.1, (show okR ((x 11 0) + j) (x 12 0) (x 13 0) (x 14 0) (x 15 0) (x 16 0) (x 17 0) (x 18 0) (x 19 0) (x 20 0) by have h8 := hX.2.1; unfold okR at h8 ⊢; omega), hX.2.2⟩)⟩) hP hD hS d_MO_fetch_294
                                · refine lv_aload_n hx hb d_MO_fetch_285 rfl (lv_at hl 2 rfl) ?_
                                  refine lv_aload_n hx hb d_MO_fetch_286 rfl (lv_at hl 2 rfl) ?_
                                  refine va_get (D := D) (ci := 5) (v := .int (iI (x 12 0))) (C := R_MO) (T := T_MO) (N := 28) hx hb hT lays_MO hown hK hP 0 rfl rfl 5 (by decide) (hT _ tw_641) (fun _ h9 => h9) rfl d_MO_fetch_287 ?_
                                  refine va_put (D := D) (ci := 5) (v := .int (iI (x 12 0))) (ty := .int) (C := R_MO) (T := T_MO) (N := 28) hx hb hT lays_MO t_MO t_MO_ok n_MO hown hK hP hD hS 0 rfl rfl 6 (by decide) (hT _ tw_642) (fun _ h9 => h9) rfl (by decide +kernel) rfl rfl (Nat.le_of_ble_eq_true rfl) d_MO_fetch_290 (fun H locs hP hD hS => ?_)
                                  have hP : va_P D vwCl (moW T q n (x 0) (x 1) (mkF (x 2) (x 18 0)) (cdF (x 2) (x 18 0)) (x 3) (x 4) ((x 11 0) + j) (x 12 0) (x 12 0) (x 14 0) (x 15 0) (x 16 0) (x 17 0) (x 18 0) (x 19 0) (x 20 0) (x 21 0) (x 22 0) (y 31 0) ((x 0) (x 11 0)) j (x 11 0) (x 12 0) (x 13 0) (y 37) (y 38) (y 39)) H := hP
                                  have hD : va_D A (moW T q n (x 0) (x 1) (mkF (x 2) (x 18 0)) (cdF (x 2) (x 18 0)) (x 3) (x 4) ((x 11 0) + j) (x 12 0) (x 12 0) (x 14 0) (x 15 0) (x 16 0) (x 17 0) (x 18 0) (x 19 0) (x 20 0) (x 21 0) (x 22 0) (y 31 0) ((x 0) (x 11 0)) j (x 11 0) (x 12 0) (x 13 0) (y 37) (y 38) (y 39)) := hD
                                  refine cx_iconst hx hb d_MO_fetch_293 ?_
                                  exact hret (((up (up x 11 (cst ((x 11 0) + j))) 13 (x 12)), (up (up (up (up (up y 32 (cst ((x 0) (x 11 0)))) 33 (cst j)) 34 (cst (x 11 0))) 35 (cst (x 12 0))) 36 (cst (x 13 0)))) : SX × SX) (Or.inr ⟨j, rfl, by omega, h114, by unfold stpS; rw [if_pos (by omega), if_pos (by omega)]; unfold stpK; rw [hk, if_neg (by omega), if_pos h114], by rw [show takS (x 0 (x 11 0)) j x = (up (up x 11 (cst ((x 11 0) + j))) 13 (x 12)) by first | (exfalso; omega) | (unfold takS takA takB; repeat (first | rfl | (rw [if_pos (by omega)]) | (rw [if_neg (by omega)])))]; rfl, (show okX (up (up x 11 (cst ((x 11 0) + j))) 13 (x 12)) from ⟨hX.1, (show okR ((x 11 0) + j) (x 12 0) (x 12 0) (x 14 0) (x 15 0) (x 16 0) (x 17 0) (x 18 0) (x 19 0) (x 20 0) by have h8 := hX.2.1; unfold okR at h8 ⊢; omega), hX.2.2⟩)⟩) hP hD hS d_MO_fetch_294
                            · refine lv_aload_n hx hb d_MO_fetch_259 rfl (lv_at hl 2 rfl) ?_
                              refine lv_aload_n hx hb d_MO_fetch_260 rfl (lv_at hl 2 rfl) ?_
                              refine lv_aload_n hx hb d_MO_fetch_261 rfl (lv_at hl 2 rfl) ?_
                              refine va_get (D := D) (ci := 5) (v := .int (iI (x 11 0))) (C := R_MO) (T := T_MO) (N := 28) hx hb hT lays_MO hown hK hP 0 rfl rfl 14 (by decide) (hT _ tw_650) (fun _ h9 => h9) rfl d_MO_fetch_262 ?_
                              refine cx_iconst hx hb d_MO_fetch_265 ?_
                              refine cx_iadd hx hb d_MO_fetch_266 ?_
                              refine cx_cI (ws2 := fun _ => moW T q n (x 0) (x 1) (mkF (x 2) (x 18 0)) (cdF (x 2) (x 18 0)) (x 3) (x 4) ((x 11 0) + j) (x 12 0) (x 13 0) (x 14 0) (x 15 0) (x 16 0) (x 17 0) (x 18 0) (x 19 0) (x 20 0) (x 21 0) (x 22 0) (y 31 0) ((x 0) (x 11 0)) j (x 11 0) (x 12 0) (x 13 0) (y 37) (y 38) (y 39)) (cx_rV (q0 := 0) (ci := 5) (rest := [.ref (q 20)]) (As := [.int (iI ((x 11 0) + 4))]) hx hb hml hown hT hK hN hP hD hl.1 tw_771 k_MO_address (c_MO_address l D T H.size q n hn (up x 11 (cst ((x 11 0) + j))) (up (up (up (up (up y 32 (cst ((x 0) (x 11 0)))) 33 (cst j)) 34 (cst (x 11 0))) 35 (cst (x 12 0))) 36 (cst (x 13 0))) (show okX (up x 11 (cst ((x 11 0) + j))) from ⟨hX.1, (show okR ((x 11 0) + j) (x 12 0) (x 13 0) (x 14 0) (x 15 0) (x 16 0) (x 17 0) (x 18 0) (x 19 0) (x 20 0) by have h8 := hX.2.1; unfold okR at h8 ⊢; omega), hX.2.2⟩) ((x 11 0) + 4) (by omega)) ⟨by decide, by decide⟩ ⟨rfl, rfl⟩ [0, 1, 2, 3, 4, 5, 6, 7, 8, 9] (by decide) rfl rfl rfl rfl rfl (Nat.le_of_ble_eq_true rfl) ⟨Nat.zero_le _, Nat.zero_le _⟩ d_MO_fetch_267) hP hD hS hA [0, 1, 2, 3, 4, 5, 6, 7, 8, 9] [] [0, 1, 2, 3, 4, 5, 6, 7, 8, 9] rfl (wr := []) rfl (by decide) (by decide) (fun _ => rfl) (by decide) (fun r u_ H locs hq267 hP hD hS => ?_)
                              subst hq267
                              refine cx_eq (y := iI (adr (x 0) ((x 11 0) + 4))) rfl ?_
                              refine va_put (D := D) (ci := 5) (v := .int (iI (adr (x 0) ((x 11 0) + 4)))) (ty := .int) (C := R_MO) (T := T_MO) (N := 28) hx hb hT lays_MO t_MO t_MO_ok n_MO hown hK hP hD hS 0 rfl rfl 6 (by decide) (hT _ tw_642) (fun _ h9 => h9) rfl (by decide +kernel) rfl rfl (Nat.le_of_ble_eq_true rfl) d_MO_fetch_270 (fun H locs hP hD hS => ?_)
                              have hP : va_P D vwCl (moW T q n (x 0) (x 1) (mkF (x 2) (x 18 0)) (cdF (x 2) (x 18 0)) (x 3) (x 4) ((x 11 0) + j) (x 12 0) (adr (x 0) ((x 11 0) + 4)) (x 14 0) (x 15 0) (x 16 0) (x 17 0) (x 18 0) (x 19 0) (x 20 0) (x 21 0) (x 22 0) (y 31 0) ((x 0) (x 11 0)) j (x 11 0) (x 12 0) (x 13 0) (y 37) (y 38) (y 39)) H := hP
                              have hD : va_D A (moW T q n (x 0) (x 1) (mkF (x 2) (x 18 0)) (cdF (x 2) (x 18 0)) (x 3) (x 4) ((x 11 0) + j) (x 12 0) (adr (x 0) ((x 11 0) + 4)) (x 14 0) (x 15 0) (x 16 0) (x 17 0) (x 18 0) (x 19 0) (x 20 0) (x 21 0) (x 22 0) (y 31 0) ((x 0) (x 11 0)) j (x 11 0) (x 12 0) (x 13 0) (y 37) (y 38) (y 39)) := hD
                              refine lv_goto (tgt := 293) hx hb d_MO_fetch_273 rfl ?_
                              refine cx_iconst hx hb d_MO_fetch_293 ?_
                              exact hret (((up (up x 11 (cst ((x 11 0) + j))) 13 (cst (adr (x 0) ((x 11 0) + 4)))), (up (up (up (up (up y 32 (cst ((x 0) (x 11 0)))) 33 (cst j)) 34 (cst (x 11 0))) 35 (cst (x 12 0))) 36 (cst (x 13 0)))) : SX × SX) (Or.inr ⟨j, rfl, by omega, h114, by unfold stpS; rw [if_pos (by omega), if_pos (by omega)]; unfold stpK; rw [hk, if_neg (by omega), if_pos h114], by rw [show takS (x 0 (x 11 0)) j x = (up (up x 11 (cst ((x 11 0) + j))) 13 (cst (adr (x 0) ((x 11 0) + 4)))) by first | (exfalso; omega) | (unfold takS takA takB; repeat (first | rfl | (rw [if_pos (by omega)]) | (rw [if_neg (by omega)])))]; rfl, (show okX (up (up x 11 (cst ((x 11 0) + j))) 13 (cst (adr (x 0) ((x 11 0) + 4)))) from ⟨hX.1, (show okR ((x 11 0) + j) (x 12 0) (adr (x 0) ((x 11 0) + 4)) (x 14 0) (x 15 0) (x 16 0) (x 17 0) (x 18 0) (x 19 0) (x 20 0) by have h8 := hX.2.1; unfold okR at h8 ⊢; omega), hX.2.2⟩)⟩) hP hD hS d_MO_fetch_294
                          refine lv_aload_n hx hb d_MO_fetch_193 rfl (lv_at hl 1 rfl) ?_
                          refine va_get (D := D) (ci := 5) (v := .int (iI ((x 0) (x 11 0)))) (C := R_MO) (T := T_MO) (N := 28) hx hb hT lays_MO hown hK hP 0 rfl rfl 12 (by decide) (hT _ tw_648) (fun _ h9 => h9) rfl d_MO_fetch_194 ?_
                          refine cx_bipush hx hb d_MO_fetch_197 rfl ?_
                          refine cx_icmp_eq (tgt := 247) hx hb d_MO_fetch_199 rfl (by omega) (by omega) (fun h199 => ?_) (fun h199 => ?_)
                          · refine cx_iconst hx hb d_MO_fetch_247 ?_
                            refine lv_goto (tgt := 252) hx hb d_MO_fetch_248 rfl ?_
                            exact J252 1 (by omega)
                          · refine lv_aload_n hx hb d_MO_fetch_202 rfl (lv_at hl 1 rfl) ?_
                            refine va_get (D := D) (ci := 5) (v := .int (iI ((x 0) (x 11 0)))) (C := R_MO) (T := T_MO) (N := 28) hx hb hT lays_MO hown hK hP 0 rfl rfl 12 (by decide) (hT _ tw_648) (fun _ h9 => h9) rfl d_MO_fetch_203 ?_
                            refine cx_bipush hx hb d_MO_fetch_206 rfl ?_
                            refine cx_icmp_eq (tgt := 247) hx hb d_MO_fetch_208 rfl (by omega) (by omega) (fun h208 => ?_) (fun h208 => ?_)
                            · refine cx_iconst hx hb d_MO_fetch_247 ?_
                              refine lv_goto (tgt := 252) hx hb d_MO_fetch_248 rfl ?_
                              exact J252 1 (by omega)
                            · refine lv_aload_n hx hb d_MO_fetch_211 rfl (lv_at hl 1 rfl) ?_
                              refine va_get (D := D) (ci := 5) (v := .int (iI ((x 0) (x 11 0)))) (C := R_MO) (T := T_MO) (N := 28) hx hb hT lays_MO hown hK hP 0 rfl rfl 12 (by decide) (hT _ tw_648) (fun _ h9 => h9) rfl d_MO_fetch_212 ?_
                              refine cx_bipush hx hb d_MO_fetch_215 rfl ?_
                              refine cx_icmp_eq (tgt := 247) hx hb d_MO_fetch_217 rfl (by omega) (by omega) (fun h217 => ?_) (fun h217 => ?_)
                              · refine cx_iconst hx hb d_MO_fetch_247 ?_
                                refine lv_goto (tgt := 252) hx hb d_MO_fetch_248 rfl ?_
                                exact J252 1 (by omega)
                              · refine lv_aload_n hx hb d_MO_fetch_220 rfl (lv_at hl 1 rfl) ?_
                                refine va_get (D := D) (ci := 5) (v := .int (iI ((x 0) (x 11 0)))) (C := R_MO) (T := T_MO) (N := 28) hx hb hT lays_MO hown hK hP 0 rfl rfl 12 (by decide) (hT _ tw_648) (fun _ h9 => h9) rfl d_MO_fetch_221 ?_
                                refine cx_bipush hx hb d_MO_fetch_224 rfl ?_
                                refine cx_icmp_eq (tgt := 247) hx hb d_MO_fetch_226 rfl (by omega) (by omega) (fun h226 => ?_) (fun h226 => ?_)
                                · refine cx_iconst hx hb d_MO_fetch_247 ?_
                                  refine lv_goto (tgt := 252) hx hb d_MO_fetch_248 rfl ?_
                                  exact J252 1 (by omega)
                                · refine lv_aload_n hx hb d_MO_fetch_229 rfl (lv_at hl 1 rfl) ?_
                                  refine va_get (D := D) (ci := 5) (v := .int (iI ((x 0) (x 11 0)))) (C := R_MO) (T := T_MO) (N := 28) hx hb hT lays_MO hown hK hP 0 rfl rfl 12 (by decide) (hT _ tw_648) (fun _ h9 => h9) rfl d_MO_fetch_230 ?_
                                  refine cx_bipush hx hb d_MO_fetch_233 rfl ?_
                                  refine cx_icmp_eq (tgt := 247) hx hb d_MO_fetch_235 rfl (by omega) (by omega) (fun h235 => ?_) (fun h235 => ?_)
                                  · refine cx_iconst hx hb d_MO_fetch_247 ?_
                                    refine lv_goto (tgt := 252) hx hb d_MO_fetch_248 rfl ?_
                                    exact J252 1 (by omega)
                                  · refine lv_aload_n hx hb d_MO_fetch_238 rfl (lv_at hl 1 rfl) ?_
                                    refine va_get (D := D) (ci := 5) (v := .int (iI ((x 0) (x 11 0)))) (C := R_MO) (T := T_MO) (N := 28) hx hb hT lays_MO hown hK hP 0 rfl rfl 12 (by decide) (hT _ tw_648) (fun _ h9 => h9) rfl d_MO_fetch_239 ?_
                                    refine cx_bipush hx hb d_MO_fetch_242 rfl ?_
                                    refine cx_icmp_ne (tgt := 251) hx hb d_MO_fetch_244 rfl (by omega) (by omega) (fun h244 => ?_) (fun h244 => ?_)
                                    · refine cx_iconst hx hb d_MO_fetch_251 ?_
                                      exact J252 0 (by omega)
                                    · refine cx_iconst hx hb d_MO_fetch_247 ?_
                                      refine lv_goto (tgt := 252) hx hb d_MO_fetch_248 rfl ?_
                                      exact J252 1 (by omega)
                        · refine lv_aload_n hx hb d_MO_fetch_179 rfl (lv_at hl 1 rfl) ?_
                          refine lv_aload_n hx hb d_MO_fetch_180 rfl (lv_at hl 1 rfl) ?_
                          refine lv_aload_n hx hb d_MO_fetch_181 rfl (lv_at hl 1 rfl) ?_
                          refine va_get (D := D) (ci := 5) (v := .int (iI (x 11 0))) (C := R_MO) (T := T_MO) (N := 28) hx hb hT lays_MO hown hK hP 0 rfl rfl 14 (by decide) (hT _ tw_650) (fun _ h9 => h9) rfl d_MO_fetch_182 ?_
                          refine cx_iconst hx hb d_MO_fetch_185 ?_
                          refine cx_iadd hx hb d_MO_fetch_186 ?_
                          refine cx_cI (ws2 := fun _ => moW T q n (x 0) (x 1) (mkF (x 2) (x 18 0)) (cdF (x 2) (x 18 0)) (x 3) (x 4) ((x 11 0) + j) (x 12 0) (x 13 0) (x 14 0) (x 15 0) (x 16 0) (x 17 0) (x 18 0) (x 19 0) (x 20 0) (x 21 0) (x 22 0) (y 31 0) ((x 0) (x 11 0)) j (x 11 0) (x 12 0) (x 13 0) (y 37) (y 38) (y 39)) (cx_rV (q0 := 0) (ci := 5) (rest := [.ref (q 20)]) (As := [.int (iI ((x 11 0) + 1))]) hx hb hml hown hT hK hN hP hD hl.1 tw_771 k_MO_address (c_MO_address l D T H.size q n hn (up x 11 (cst ((x 11 0) + j))) (up (up (up (up (up y 32 (cst ((x 0) (x 11 0)))) 33 (cst j)) 34 (cst (x 11 0))) 35 (cst (x 12 0))) 36 (cst (x 13 0))) (show okX (up x 11 (cst ((x 11 0) + j))) from ⟨hX.1, (show okR ((x 11 0) + j) (x 12 0) (x 13 0) (x 14 0) (x 15 0) (x 16 0) (x 17 0) (x 18 0) (x 19 0) (x 20 0) by have h8 := hX.2.1; unfold okR at h8 ⊢; omega), hX.2.2⟩) ((x 11 0) + 1) (by omega)) ⟨by decide, by decide⟩ ⟨rfl, rfl⟩ [0, 1, 2, 3, 4, 5, 6, 7, 8, 9] (by decide) rfl rfl rfl rfl rfl (Nat.le_of_ble_eq_true rfl) ⟨Nat.zero_le _, Nat.zero_le _⟩ d_MO_fetch_187) hP hD hS hA [0, 1, 2, 3, 4, 5, 6, 7, 8, 9] [] [0, 1, 2, 3, 4, 5, 6, 7, 8, 9] rfl (wr := []) rfl (by decide) (by decide) (fun _ => rfl) (by decide) (fun r u_ H locs hq187 hP hD hS => ?_)
                          subst hq187
                          refine cx_eq (y := iI (adr (x 0) ((x 11 0) + 1))) rfl ?_
                          refine va_put (D := D) (ci := 5) (v := .int (iI (adr (x 0) ((x 11 0) + 1)))) (ty := .int) (C := R_MO) (T := T_MO) (N := 28) hx hb hT lays_MO t_MO t_MO_ok n_MO hown hK hP hD hS 0 rfl rfl 5 (by decide) (hT _ tw_641) (fun _ h9 => h9) rfl (by decide +kernel) rfl rfl (Nat.le_of_ble_eq_true rfl) d_MO_fetch_190 (fun H locs hP hD hS => ?_)
                          have hP : va_P D vwCl (moW T q n (x 0) (x 1) (mkF (x 2) (x 18 0)) (cdF (x 2) (x 18 0)) (x 3) (x 4) ((x 11 0) + j) (adr (x 0) ((x 11 0) + 1)) (x 13 0) (x 14 0) (x 15 0) (x 16 0) (x 17 0) (x 18 0) (x 19 0) (x 20 0) (x 21 0) (x 22 0) (y 31 0) ((x 0) (x 11 0)) j (x 11 0) (x 12 0) (x 13 0) (y 37) (y 38) (y 39)) H := hP
                          have hD : va_D A (moW T q n (x 0) (x 1) (mkF (x 2) (x 18 0)) (cdF (x 2) (x 18 0)) (x 3) (x 4) ((x 11 0) + j) (adr (x 0) ((x 11 0) + 1)) (x 13 0) (x 14 0) (x 15 0) (x 16 0) (x 17 0) (x 18 0) (x 19 0) (x 20 0) (x 21 0) (x 22 0) (y 31 0) ((x 0) (x 11 0)) j (x 11 0) (x 12 0) (x 13 0) (y 37) (y 38) (y 39)) := hD
                          have J252 : ∀ v252 : Int, ((v252 = 1 ∧ (x 0 (x 11 0) = 36 ∨ x 0 (x 11 0) = 35 ∨ x 0 (x 11 0) = 52 ∨ x 0 (x 11 0) = 24 ∨ x 0 (x 11 0) = 40 ∨ x 0 (x 11 0) = 56)) ∨ (v252 = 0 ∧ ¬ (x 0 (x 11 0) = 36 ∨ x 0 (x 11 0) = 35 ∨ x 0 (x 11 0) = 52 ∨ x 0 (x 11 0) = 24 ∨ x 0 (x 11 0) = 40 ∨ x 0 (x 11 0) = 56))) → W p l e (rmK 2) s m ([.ref (q 20)] : List Value).toArray below meth cd H locs 0 0 Q (F0 m 252 ls [.int (iI v252)]) := by
                            intro v252 hv252
                            refine lv_istore_n (lv' := [(2, .int (iI (v252))), (1, .int (iI (j))), (0, .ref (q 20))]) hx hb d_MO_fetch_252 rfl hl (by decide) rfl (fun ls hl => ?_)
                            refine lv_iload_n hx hb d_MO_fetch_253 rfl (lv_at hl 1 rfl) ?_
                            refine cx_bipush hx hb d_MO_fetch_254 rfl ?_
                            refine cx_icmp_lt (tgt := 276) hx hb d_MO_fetch_256 rfl (by omega) (by omega) (fun h256 => ?_) (fun h256 => ?_)
                            · refine lv_iload_n hx hb d_MO_fetch_276 rfl (lv_at hl 1 rfl) ?_
                              refine cx_iconst hx hb d_MO_fetch_277 ?_
                              refine cx_icmp_lt (tgt := 293) hx hb d_MO_fetch_278 rfl (by omega) (by omega) (fun h278 => ?_) (fun h278 => ?_)
                              · refine cx_iconst hx hb d_MO_fetch_293 ?_
                                exact hret (((up (up x 11 (cst ((x 11 0) + j))) 12 (cst (adr (x 0) ((x 11 0) + 1)))), (up (up (up (up (up y 32 (cst ((x 0) (x 11 0)))) 33 (cst j)) 34 (cst (x 11 0))) 35 (cst (x 12 0))) 36 (cst (x 13 0)))) : SX × SX) (Or.inr ⟨j, rfl, by omega, h114, by unfold stpS; rw [if_pos (by omega), if_pos (by omega)]; unfold stpK; rw [hk, if_neg (by omega), if_pos h114], by rw [show takS (x 0 (x 11 0)) j x = (up (up x 11 (cst ((x 11 0) + j))) 12 (cst (adr (x 0) ((x 11 0) + 1)))) by first | (exfalso; omega) | (unfold takS takA takB; repeat (first | rfl | (rw [if_pos (by omega)]) | (rw [if_neg (by omega)])))]; rfl, (show okX (up (up x 11 (cst ((x 11 0) + j))) 12 (cst (adr (x 0) ((x 11 0) + 1)))) from ⟨hX.1, (show okR ((x 11 0) + j) (adr (x 0) ((x 11 0) + 1)) (x 13 0) (x 14 0) (x 15 0) (x 16 0) (x 17 0) (x 18 0) (x 19 0) (x 20 0) by have h8 := hX.2.1; unfold okR at h8 ⊢; omega), hX.2.2⟩)⟩) hP hD hS d_MO_fetch_294
                              · refine lv_iload_n hx hb d_MO_fetch_281 rfl (lv_at hl 0 rfl) ?_
                                refine cx_if_ne (tgt := 293) hx hb d_MO_fetch_282 rfl (by omega) (fun h282 => ?_) (fun h282 => ?_)
                                · refine cx_iconst hx hb d_MO_fetch_293 ?_
                                  exact hret (((up (up x 11 (cst ((x 11 0) + j))) 12 (cst (adr (x 0) ((x 11 0) + 1)))), (up (up (up (up (up y 32 (cst ((x 0) (x 11 0)))) 33 (cst j)) 34 (cst (x 11 0))) 35 (cst (x 12 0))) 36 (cst (x 13 0)))) : SX × SX) (Or.inr ⟨j, rfl, by omega, h114, by unfold stpS; rw [if_pos (by omega), if_pos (by omega)]; unfold stpK; rw [hk, if_neg (by omega), if_pos h114], by rw [show takS (x 0 (x 11 0)) j x = (up (up x 11 (cst ((x 11 0) + j))) 12 (cst (adr (x 0) ((x 11 0) + 1)))) by first | (exfalso; omega) | (unfold takS takA takB; repeat (first | rfl | (rw [if_pos (by omega)]) | (rw [if_neg (by omega)])))]; rfl, (show okX (up (up x 11 (cst ((x 11 0) + j))) 12 (cst (adr (x 0) ((x 11 0) + 1)))) from ⟨hX.1, (show okR ((x 11 0) + j) (adr (x 0) ((x 11 0) + 1)) (x 13 0) (x 14 0) (x 15 0) (x 16 0) (x 17 0) (x 18 0) (x 19 0) (x 20 0) by have h8 := hX.2.1; unfold okR at h8 ⊢; omega), hX.2.2⟩)⟩) hP hD hS d_MO_fetch_294
                                · refine lv_aload_n hx hb d_MO_fetch_285 rfl (lv_at hl 2 rfl) ?_
                                  refine lv_aload_n hx hb d_MO_fetch_286 rfl (lv_at hl 2 rfl) ?_
                                  refine va_get (D := D) (ci := 5) (v := .int (iI (adr (x 0) ((x 11 0) + 1)))) (C := R_MO) (T := T_MO) (N := 28) hx hb hT lays_MO hown hK hP 0 rfl rfl 5 (by decide) (hT _ tw_641) (fun _ h9 => h9) rfl d_MO_fetch_287 ?_
                                  refine va_put (D := D) (ci := 5) (v := .int (iI (adr (x 0) ((x 11 0) + 1)))) (ty := .int) (C := R_MO) (T := T_MO) (N := 28) hx hb hT lays_MO t_MO t_MO_ok n_MO hown hK hP hD hS 0 rfl rfl 6 (by decide) (hT _ tw_642) (fun _ h9 => h9) rfl (by decide +kernel) rfl rfl (Nat.le_of_ble_eq_true rfl) d_MO_fetch_290 (fun H locs hP hD hS => ?_)
                                  have hP : va_P D vwCl (moW T q n (x 0) (x 1) (mkF (x 2) (x 18 0)) (cdF (x 2) (x 18 0)) (x 3) (x 4) ((x 11 0) + j) (adr (x 0) ((x 11 0) + 1)) (adr (x 0) ((x 11 0) + 1)) (x 14 0) (x 15 0) (x 16 0) (x 17 0) (x 18 0) (x 19 0) (x 20 0) (x 21 0) (x 22 0) (y 31 0) ((x 0) (x 11 0)) j (x 11 0) (x 12 0) (x 13 0) (y 37) (y 38) (y 39)) H := hP
                                  have hD : va_D A (moW T q n (x 0) (x 1) (mkF (x 2) (x 18 0)) (cdF (x 2) (x 18 0)) (x 3) (x 4) ((x 11 0) + j) (adr (x 0) ((x 11 0) + 1)) (adr (x 0) ((x 11 0) + 1)) (x 14 0) (x 15 0) (x 16 0) (x 17 0) (x 18 0) (x 19 0) (x 20 0) (x 21 0) (x 22 0) (y 31 0) ((x 0) (x 11 0)) j (x 11 0) (x 12 0) (x 13 0) (y 37) (y 38) (y 39)) := hD
                                  refine cx_iconst hx hb d_MO_fetch_293 ?_
                                  exact hret (((up (up (up x 11 (cst ((x 11 0) + j))) 12 (cst (adr (x 0) ((x 11 0) + 1)))) 13 (cst (adr (x 0) ((x 11 0) + 1)))), (up (up (up (up (up y 32 (cst ((x 0) (x 11 0)))) 33 (cst j)) 34 (cst (x 11 0))) 35 (cst (x 12 0))) 36 (cst (x 13 0)))) : SX × SX) (Or.inr ⟨j, rfl, by omega, h114, by unfold stpS; rw [if_pos (by omega), if_pos (by omega)]; unfold stpK; rw [hk, if_neg (by omega), if_pos h114], by rw [show takS (x 0 (x 11 0)) j x = (up (up (up x 11 (cst ((x 11 0) + j))) 12 (cst (adr (x 0) ((x 11 0) + 1)))) 13 (cst (adr (x 0) ((x 11 0) + 1)))) by first | (exfalso; omega) | (unfold takS takA takB; repeat (first | rfl | (rw [if_pos (by omega)]) | (rw [if_neg (by omega)])))]; rfl, (show okX (up (up (up x 11 (cst ((x 11 0) + j))) 12 (cst (adr (x 0) ((x 11 0) + 1)))) 13 (cst (adr (x 0) ((x 11 0) + 1)))) from ⟨hX.1, (show okR ((x 11 0) + j) (adr (x 0) ((x 11 0) + 1)) (adr (x 0) ((x 11 0) + 1)) (x 14 0) (x 15 0) (x 16 0) (x 17 0) (x 18 0) (x 19 0) (x 20 0) by have h8 := hX.2.1; unfold okR at h8 ⊢; omega), hX.2.2⟩)⟩) hP hD hS d_MO_fetch_294
                            · refine lv_aload_n hx hb d_MO_fetch_259 rfl (lv_at hl 2 rfl) ?_
                              refine lv_aload_n hx hb d_MO_fetch_260 rfl (lv_at hl 2 rfl) ?_
                              refine lv_aload_n hx hb d_MO_fetch_261 rfl (lv_at hl 2 rfl) ?_
                              refine va_get (D := D) (ci := 5) (v := .int (iI (x 11 0))) (C := R_MO) (T := T_MO) (N := 28) hx hb hT lays_MO hown hK hP 0 rfl rfl 14 (by decide) (hT _ tw_650) (fun _ h9 => h9) rfl d_MO_fetch_262 ?_
                              refine cx_iconst hx hb d_MO_fetch_265 ?_
                              refine cx_iadd hx hb d_MO_fetch_266 ?_
                              refine cx_cI (ws2 := fun _ => moW T q n (x 0) (x 1) (mkF (x 2) (x 18 0)) (cdF (x 2) (x 18 0)) (x 3) (x 4) ((x 11 0) + j) (adr (x 0) ((x 11 0) + 1)) (x 13 0) (x 14 0) (x 15 0) (x 16 0) (x 17 0) (x 18 0) (x 19 0) (x 20 0) (x 21 0) (x 22 0) (y 31 0) ((x 0) (x 11 0)) j (x 11 0) (x 12 0) (x 13 0) (y 37) (y 38) (y 39)) (cx_rV (q0 := 0) (ci := 5) (rest := [.ref (q 20)]) (As := [.int (iI ((x 11 0) + 4))]) hx hb hml hown hT hK hN hP hD hl.1 tw_771 k_MO_address (c_MO_address l D T H.size q n hn (up (up x 11 (cst ((x 11 0) + j))) 12 (cst (adr (x 0) ((x 11 0) + 1)))) (up (up (up (up (up y 32 (cst ((x 0) (x 11 0)))) 33 (cst j)) 34 (cst (x 11 0))) 35 (cst (x 12 0))) 36 (cst (x 13 0))) (show okX (up (up x 11 (cst ((x 11 0) + j))) 12 (cst (adr (x 0) ((x 11 0) + 1)))) from ⟨hX.1, (show okR ((x 11 0) + j) (adr (x 0) ((x 11 0) + 1)) (x 13 0) (x 14 0) (x 15 0) (x 16 0) (x 17 0) (x 18 0) (x 19 0) (x 20 0) by have h8 := hX.2.1; unfold okR at h8 ⊢; omega), hX.2.2⟩) ((x 11 0) + 4) (by omega)) ⟨by decide, by decide⟩ ⟨rfl, rfl⟩ [0, 1, 2, 3, 4, 5, 6, 7, 8, 9] (by decide) rfl rfl rfl rfl rfl (Nat.le_of_ble_eq_true rfl) ⟨Nat.zero_le _, Nat.zero_le _⟩ d_MO_fetch_267) hP hD hS hA [0, 1, 2, 3, 4, 5, 6, 7, 8, 9] [] [0, 1, 2, 3, 4, 5, 6, 7, 8, 9] rfl (wr := []) rfl (by decide) (by decide) (fun _ => rfl) (by decide) (fun r u_ H locs hq267 hP hD hS => ?_)
                              subst hq267
                              refine cx_eq (y := iI (adr (x 0) ((x 11 0) + 4))) rfl ?_
                              refine va_put (D := D) (ci := 5) (v := .int (iI (adr (x 0) ((x 11 0) + 4)))) (ty := .int) (C := R_MO) (T := T_MO) (N := 28) hx hb hT lays_MO t_MO t_MO_ok n_MO hown hK hP hD hS 0 rfl rfl 6 (by decide) (hT _ tw_642) (fun _ h9 => h9) rfl (by decide +kernel) rfl rfl (Nat.le_of_ble_eq_true rfl) d_MO_fetch_270 (fun H locs hP hD hS => ?_)
                              have hP : va_P D vwCl (moW T q n (x 0) (x 1) (mkF (x 2) (x 18 0)) (cdF (x 2) (x 18 0)) (x 3) (x 4) ((x 11 0) + j) (adr (x 0) ((x 11 0) + 1)) (adr (x 0) ((x 11 0) + 4)) (x 14 0) (x 15 0) (x 16 0) (x 17 0) (x 18 0) (x 19 0) (x 20 0) (x 21 0) (x 22 0) (y 31 0) ((x 0) (x 11 0)) j (x 11 0) (x 12 0) (x 13 0) (y 37) (y 38) (y 39)) H := hP
                              have hD : va_D A (moW T q n (x 0) (x 1) (mkF (x 2) (x 18 0)) (cdF (x 2) (x 18 0)) (x 3) (x 4) ((x 11 0) + j) (adr (x 0) ((x 11 0) + 1)) (adr (x 0) ((x 11 0) + 4)) (x 14 0) (x 15 0) (x 16 0) (x 17 0) (x 18 0) (x 19 0) (x 20 0) (x 21 0) (x 22 0) (y 31 0) ((x 0) (x 11 0)) j (x 11 0) (x 12 0) (x 13 0) (y 37) (y 38) (y 39)) := hD
                              refine lv_goto (tgt := 293) hx hb d_MO_fetch_273 rfl ?_
                              refine cx_iconst hx hb d_MO_fetch_293 ?_
                              exact hret (((up (up (up x 11 (cst ((x 11 0) + j))) 12 (cst (adr (x 0) ((x 11 0) + 1)))) 13 (cst (adr (x 0) ((x 11 0) + 4)))), (up (up (up (up (up y 32 (cst ((x 0) (x 11 0)))) 33 (cst j)) 34 (cst (x 11 0))) 35 (cst (x 12 0))) 36 (cst (x 13 0)))) : SX × SX) (Or.inr ⟨j, rfl, by omega, h114, by unfold stpS; rw [if_pos (by omega), if_pos (by omega)]; unfold stpK; rw [hk, if_neg (by omega), if_pos h114], by rw [show takS (x 0 (x 11 0)) j x = (up (up (up x 11 (cst ((x 11 0) + j))) 12 (cst (adr (x 0) ((x 11 0) + 1)))) 13 (cst (adr (x 0) ((x 11 0) + 4)))) by first | (exfalso; omega) | (unfold takS takA takB; repeat (first | rfl | (rw [if_pos (by omega)]) | (rw [if_neg (by omega)])))]; rfl, (show okX (up (up (up x 11 (cst ((x 11 0) + j))) 12 (cst (adr (x 0) ((x 11 0) + 1)))) 13 (cst (adr (x 0) ((x 11 0) + 4)))) from ⟨hX.1, (show okR ((x 11 0) + j) (adr (x 0) ((x 11 0) + 1)) (adr (x 0) ((x 11 0) + 4)) (x 14 0) (x 15 0) (x 16 0) (x 17 0) (x 18 0) (x 19 0) (x 20 0) by have h8 := hX.2.1; unfold okR at h8 ⊢; omega), hX.2.2⟩)⟩) hP hD hS d_MO_fetch_294
                          refine lv_aload_n hx hb d_MO_fetch_193 rfl (lv_at hl 1 rfl) ?_
                          refine va_get (D := D) (ci := 5) (v := .int (iI ((x 0) (x 11 0)))) (C := R_MO) (T := T_MO) (N := 28) hx hb hT lays_MO hown hK hP 0 rfl rfl 12 (by decide) (hT _ tw_648) (fun _ h9 => h9) rfl d_MO_fetch_194 ?_
                          refine cx_bipush hx hb d_MO_fetch_197 rfl ?_
                          refine cx_icmp_eq (tgt := 247) hx hb d_MO_fetch_199 rfl (by omega) (by omega) (fun h199 => ?_) (fun h199 => ?_)
                          · refine cx_iconst hx hb d_MO_fetch_247 ?_
                            refine lv_goto (tgt := 252) hx hb d_MO_fetch_248 rfl ?_
                            exact J252 1 (by omega)
                          · refine lv_aload_n hx hb d_MO_fetch_202 rfl (lv_at hl 1 rfl) ?_
                            refine va_get (D := D) (ci := 5) (v := .int (iI ((x 0) (x 11 0)))) (C := R_MO) (T := T_MO) (N := 28) hx hb hT lays_MO hown hK hP 0 rfl rfl 12 (by decide) (hT _ tw_648) (fun _ h9 => h9) rfl d_MO_fetch_203 ?_
                            refine cx_bipush hx hb d_MO_fetch_206 rfl ?_
                            refine cx_icmp_eq (tgt := 247) hx hb d_MO_fetch_208 rfl (by omega) (by omega) (fun h208 => ?_) (fun h208 => ?_)
                            · refine cx_iconst hx hb d_MO_fetch_247 ?_
                              refine lv_goto (tgt := 252) hx hb d_MO_fetch_248 rfl ?_
                              exact J252 1 (by omega)
                            · refine lv_aload_n hx hb d_MO_fetch_211 rfl (lv_at hl 1 rfl) ?_
                              refine va_get (D := D) (ci := 5) (v := .int (iI ((x 0) (x 11 0)))) (C := R_MO) (T := T_MO) (N := 28) hx hb hT lays_MO hown hK hP 0 rfl rfl 12 (by decide) (hT _ tw_648) (fun _ h9 => h9) rfl d_MO_fetch_212 ?_
                              refine cx_bipush hx hb d_MO_fetch_215 rfl ?_
                              refine cx_icmp_eq (tgt := 247) hx hb d_MO_fetch_217 rfl (by omega) (by omega) (fun h217 => ?_) (fun h217 => ?_)
                              · refine cx_iconst hx hb d_MO_fetch_247 ?_
                                refine lv_goto (tgt := 252) hx hb d_MO_fetch_248 rfl ?_
                                exact J252 1 (by omega)
                              · refine lv_aload_n hx hb d_MO_fetch_220 rfl (lv_at hl 1 rfl) ?_
                                refine va_get (D := D) (ci := 5) (v := .int (iI ((x 0) (x 11 0)))) (C := R_MO) (T := T_MO) (N := 28) hx hb hT lays_MO hown hK hP 0 rfl rfl 12 (by decide) (hT _ tw_648) (fun _ h9 => h9) rfl d_MO_fetch_221 ?_
                                refine cx_bipush hx hb d_MO_fetch_224 rfl ?_
                                refine cx_icmp_eq (tgt := 247) hx hb d_MO_fetch_226 rfl (by omega) (by omega) (fun h226 => ?_) (fun h226 => ?_)
                                · refine cx_iconst hx hb d_MO_fetch_247 ?_
                                  refine lv_goto (tgt := 252) hx hb d_MO_fetch_248 rfl ?_
                                  exact J252 1 (by omega)
                                · refine lv_aload_n hx hb d_MO_fetch_229 rfl (lv_at hl 1 rfl) ?_
                                  refine va_get (D := D) (ci := 5) (v := .int (iI ((x 0) (x 11 0)))) (C := R_MO) (T := T_MO) (N := 28) hx hb hT lays_MO hown hK hP 0 rfl rfl 12 (by decide) (hT _ tw_648) (fun _ h9 => h9) rfl d_MO_fetch_230 ?_
                                  refine cx_bipush hx hb d_MO_fetch_233 rfl ?_
                                  refine cx_icmp_eq (tgt := 247) hx hb d_MO_fetch_235 rfl (by omega) (by omega) (fun h235 => ?_) (fun h235 => ?_)
                                  · refine cx_iconst hx hb d_MO_fetch_247 ?_
                                    refine lv_goto (tgt := 252) hx hb d_MO_fetch_248 rfl ?_
                                    exact J252 1 (by omega)
                                  · refine lv_aload_n hx hb d_MO_fetch_238 rfl (lv_at hl 1 rfl) ?_
                                    refine va_get (D := D) (ci := 5) (v := .int (iI ((x 0) (x 11 0)))) (C := R_MO) (T := T_MO) (N := 28) hx hb hT lays_MO hown hK hP 0 rfl rfl 12 (by decide) (hT _ tw_648) (fun _ h9 => h9) rfl d_MO_fetch_239 ?_
                                    refine cx_bipush hx hb d_MO_fetch_242 rfl ?_
                                    refine cx_icmp_ne (tgt := 251) hx hb d_MO_fetch_244 rfl (by omega) (by omega) (fun h244 => ?_) (fun h244 => ?_)
                                    · refine cx_iconst hx hb d_MO_fetch_251 ?_
                                      exact J252 0 (by omega)
                                    · refine cx_iconst hx hb d_MO_fetch_247 ?_
                                      refine lv_goto (tgt := 252) hx hb d_MO_fetch_248 rfl ?_
                                      exact J252 1 (by omega)
                      · refine cx_if_ne (tgt := 122) hx hb d_MO_fetch_117 rfl (by omega) (fun h0 => absurd h0 (by decide)) (fun _ => ?_)
                        refine cx_iconst hx hb d_MO_fetch_120 ?_
                        exact hret ((x, y) : SX × SX) (Or.inl ⟨3, rfl, by decide, by unfold stpS; rw [if_pos (by omega), if_pos (by omega)]; unfold stpK; rw [hk, if_neg (by omega), if_neg h114], rfl⟩) hP hD hS d_MO_fetch_121
                    · refine cx_if_eq (tgt := 120) hx hb d_MO_fetch_101 rfl (by omega) (fun _ => ?_) (fun h0 => absurd h0 (by decide))
                      refine cx_iconst hx hb d_MO_fetch_120 ?_
                      exact hret ((x, y) : SX × SX) (Or.inl ⟨3, rfl, by decide, by unfold stpS; rw [if_pos (by omega), if_pos (by omega)]; unfold stpK; rw [hk, if_neg (by omega), if_neg h114], rfl⟩) hP hD hS d_MO_fetch_121
                · refine cx_iinc (k := 0) (lv' := [(1, .int (iI (j + 1))), (0, .ref (q 20))]) hx hb d_MO_fetch_79 hl rfl (by decide) rfl (fun ls hl => ?_)
                  refine lv_goto (tgt := 29) hx hb d_MO_fetch_82 rfl ?_
                  exact ih1 (j + 1) _ _ _ (by omega) (by rw [hf, ins, if_pos (by omega), if_neg (by omega)]) hP hD hS (lv_sub hl [0, 1] rfl)
              · exfalso; omega
            · refine cx_if_eq (tgt := 85) hx hb d_MO_fetch_45 rfl (by omega) (fun _ => ?_) (fun h0 => absurd h0 (by decide))
              refine lv_iload_n hx hb d_MO_fetch_85 rfl (lv_at hl 0 rfl) ?_
              refine cx_bipush hx hb d_MO_fetch_86 rfl ?_
              refine cx_icmp_eq (tgt := 120) hx hb d_MO_fetch_88 rfl (by omega) (by omega) (fun h88 => ?_) (fun h88 => ?_)
              · refine cx_iconst hx hb d_MO_fetch_120 ?_
                exact hret ((x, y) : SX × SX) (Or.inl ⟨3, rfl, by decide, by unfold stpS; rw [if_pos (by omega), if_pos (by omega)]; unfold stpK; rw [show ins n (x 1) (x 11 0) 9 1 = 0 by rw [hf, ins, if_neg (by omega)], if_pos rfl], rfl⟩) hP hD hS d_MO_fetch_121
              · refine lv_aload_n hx hb d_MO_fetch_91 rfl (lv_at hl 1 rfl) ?_
                refine lv_aload_n hx hb d_MO_fetch_92 rfl (lv_at hl 1 rfl) ?_
                refine va_get (D := D) (ci := 5) (v := .int (iI (x 11 0))) (C := R_MO) (T := T_MO) (N := 28) hx hb hT lays_MO hown hK hP 0 rfl rfl 4 (by decide) (hT _ tw_640) (fun _ h9 => h9) rfl d_MO_fetch_93 ?_
                refine lv_iload_n hx hb d_MO_fetch_96 rfl (lv_at hl 0 rfl) ?_
                refine cx_iadd hx hb d_MO_fetch_97 ?_
                refine cx_cI (ws2 := fun _ => moW T q n (x 0) (x 1) (mkF (x 2) (x 18 0)) (cdF (x 2) (x 18 0)) (x 3) (x 4) (x 11 0) (x 12 0) (x 13 0) (x 14 0) (x 15 0) (x 16 0) (x 17 0) (x 18 0) (x 19 0) (x 20 0) (x 21 0) (x 22 0) (y 31 0) (y 32 0) (y 33 0) (y 34 0) (y 35 0) (y 36 0) (y 37) (y 38) (y 39)) (cx_rV (q0 := 0) (ci := 5) (rest := []) (As := [.int (iI ((x 11 0) + j))]) hx hb hml hown hT hK hN hP hD hl.1 tw_731 k_MO_is (c_MO_is l D T H.size q n hn x y hX ((x 11 0) + j) (by omega)) ⟨by decide, by decide⟩ ⟨rfl, rfl⟩ [0, 1, 2, 3, 4, 5, 6, 7, 8, 9] (by decide) rfl rfl rfl rfl rfl (Nat.le_of_ble_eq_true rfl) ⟨Nat.zero_le _, Nat.zero_le _⟩ d_MO_fetch_98) hP hD hS hA [0, 1, 2, 3, 4, 5, 6, 7, 8, 9] [] [0, 1, 2, 3, 4, 5, 6, 7, 8, 9] rfl (wr := []) rfl (by decide) (by decide) (fun _ => rfl) (by decide) (fun r u_ H locs hq98 hP hD hS => ?_)
                rcases hq98 with ⟨rfl, h98⟩ | ⟨rfl, h98⟩
                · exfalso; omega
                · refine cx_if_eq (tgt := 120) hx hb d_MO_fetch_101 rfl (by omega) (fun _ => ?_) (fun h0 => absurd h0 (by decide))
                  refine cx_iconst hx hb d_MO_fetch_120 ?_
                  exact hret ((x, y) : SX × SX) (Or.inl ⟨3, rfl, by decide, by unfold stpS; rw [if_pos (by omega), if_pos (by omega)]; unfold stpK; rw [show ins n (x 1) (x 11 0) 9 1 = 0 by rw [hf, ins, if_neg (by omega)], if_pos rfl], rfl⟩) hP hD hS d_MO_fetch_121
      exact L1 9 1 _ _ _ (by omega) rfl hP hD hS (lv_sub hl [0, 1] rfl)
    · refine cx_iconst hx hb d_MO_fetch_25 ?_
      exact hret ((x, y) : SX × SX) (Or.inl ⟨1, rfl, by decide, by unfold stpS; rw [if_pos (by omega), if_neg (by omega)], rfl⟩) hP hD hS d_MO_fetch_26
  · refine cx_if_ne (tgt := 13) hx hb d_MO_fetch_8 rfl (by omega) (fun h0 => absurd h0 (by decide)) (fun _ => ?_)
    refine cx_iconst hx hb d_MO_fetch_11 ?_
    exact hret ((x, y) : SX × SX) (Or.inl ⟨2, rfl, by decide, by unfold stpS; rw [if_neg (by omega)], rfl⟩) hP hD hS d_MO_fetch_12
