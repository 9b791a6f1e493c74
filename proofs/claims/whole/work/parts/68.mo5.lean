/-! the reference: cards and rows with going, addresses, the fetch -/
theorem rdc_in (x : SX) : (rdcS 0 x).1 = 4 ∨ (rdcS 0 x).1 = 0 := by
  unfold rdcS
  split
  · exact Or.inl rfl
  · exact Or.inr rfl
theorem fil_in (f fl : Nat) (cap area wid : Int) (x : SX) : (filS f fl cap area wid 0 x).1 = 5 ∨ (filS f fl cap area wid 0 x).1 = 0 := by
  unfold filS
  split
  · exact Or.inl rfl
  · exact Or.inr rfl
theorem rdc_g {g : Int} {x : SX} : rdcS g x = if (rdcS 0 x).1 = 0 then (0, gof g (rdcS 0 x).2) else rdcS 0 x := by
  unfold rdcS
  by_cases h : x 18 0 - x 17 0 = 0
  · rw [if_pos h, if_pos h, if_neg (show ¬ (4 : Int) = 0 by decide)]
  · rw [if_neg h, if_neg h, if_pos rfl]; rfl
theorem fil_g {f fl : Nat} {cap area wid g : Int} {x : SX} : filS f fl cap area wid g x = if (filS f fl cap area wid 0 x).1 = 0 then (0, gof g (filS f fl cap area wid 0 x).2) else filS f fl cap area wid 0 x := by
  unfold filS
  by_cases h : cap ≤ x fl 0
  · rw [if_pos h, if_pos h, if_neg (show ¬ (5 : Int) = 0 by decide)]
  · rw [if_neg h, if_neg h, if_pos rfl]; rfl
def dvcS (o k : Int) (x : SX) : Int × SX := if o = 1 then rdcS (if k < 4 then 0 else 1) x else if o = 2 then filS 3 19 40 201 132 (if k < 4 then 0 else 1) x else filS 4 20 20 101 80 (if k < 4 then 0 else 1) x
theorem fin16 {x : Int} (h : 0 ≤ x ∧ x < 16) : ∃ k : Fin 16, x = (k.val : Int) := ⟨⟨x.toNat, by omega⟩, by show x = ((x.toNat : Nat) : Int); omega⟩
theorem qb_A : ∀ k : Fin 16, (iI (k.val : Int) &&& iI 1 = iI ((k.val : Int) % 2)) ∧ (iI (k.val : Int) >>> (iI 1 &&& 31) = iI ((k.val : Int) / 2)) ∧ (iI ((k.val : Int) / 2) &&& iI 1 = iI ((k.val : Int) / 2 % 2)) ∧ (iI (k.val : Int) >>> (iI 2 &&& 31) = iI ((k.val : Int) / 4)) ∧ (iI ((k.val : Int) / 4) &&& iI 1 = iI ((k.val : Int) / 4 % 2)) ∧ (iI (k.val : Int) >>> (iI 3 &&& 31) = iI ((k.val : Int) / 8)) ∧ (iI ((k.val : Int) / 8) &&& iI 1 = iI ((k.val : Int) / 8 % 2)) := by decide +kernel
theorem qb_all {k : Int} (h : 0 ≤ k ∧ k < 16) : (iI k &&& iI 1 = iI (k % 2)) ∧ (iI k >>> (iI 1 &&& 31) = iI (k / 2)) ∧ (iI (k / 2) &&& iI 1 = iI (k / 2 % 2)) ∧ (iI k >>> (iI 2 &&& 31) = iI (k / 4)) ∧ (iI (k / 4) &&& iI 1 = iI (k / 4 % 2)) ∧ (iI k >>> (iI 3 &&& 31) = iI (k / 8)) ∧ (iI (k / 8) &&& iI 1 = iI (k / 8 % 2)) := by
  obtain ⟨j, rfl⟩ := fin16 h; exact qb_A j
theorem hb_A : ∀ k : Fin 64, (iI (k.val : Int) >>> (iI 4 &&& 31) = iI ((k.val : Int) / 16)) ∧ (iI (k.val : Int) >>> (iI 5 &&& 31) = iI ((k.val : Int) / 32)) ∧ (iI ((k.val : Int) / 16) &&& iI 1 = iI ((k.val : Int) / 16 % 2)) ∧ (iI ((k.val : Int) / 32) &&& iI 1 = iI ((k.val : Int) / 32 % 2)) := by decide +kernel
theorem hb_all {k : Int} (h : 0 ≤ k ∧ k < 64) : (iI k >>> (iI 4 &&& 31) = iI (k / 16)) ∧ (iI k >>> (iI 5 &&& 31) = iI (k / 32)) ∧ (iI (k / 16) &&& iI 1 = iI (k / 16 % 2)) ∧ (iI (k / 32) &&& iI 1 = iI (k / 32 % 2)) := by
  obtain ⟨j, rfl⟩ := fin64 h; exact hb_A j
theorem bt_q1A : ∀ d k : Fin 16, iI ((d.val : Int) + 16 * ((k.val : Int) % 2)) ||| iI ((k.val : Int) / 2 % 2 * 32) = iI ((d.val : Int) + 16 * ((k.val : Int) % 4)) := by decide +kernel
theorem bt_q1 {d k : Int} (hd : 0 ≤ d ∧ d < 16) (hk : 0 ≤ k ∧ k < 16) : iI (d + 16 * (k % 2)) ||| iI (k / 2 % 2 * 32) = iI (d + 16 * (k % 4)) := by
  obtain ⟨i, rfl⟩ := fin16 hd; obtain ⟨j, rfl⟩ := fin16 hk; exact bt_q1A i j
theorem bt_q2A : ∀ d k : Fin 16, iI ((d.val : Int) + 16 * ((k.val : Int) / 4 % 2)) ||| iI ((k.val : Int) / 8 % 2 * 32) = iI ((d.val : Int) + 16 * ((k.val : Int) / 4)) := by decide +kernel
theorem bt_q2 {d k : Int} (hd : 0 ≤ d ∧ d < 16) (hk : 0 ≤ k ∧ k < 16) : iI (d + 16 * (k / 4 % 2)) ||| iI (k / 8 % 2 * 32) = iI (d + 16 * (k / 4)) := by
  obtain ⟨i, rfl⟩ := fin16 hd; obtain ⟨j, rfl⟩ := fin16 hk; exact bt_q2A i j
def alP (o k : Int) : Prop := alv o k
def ftY (o k i a b : Int) (y : SX) : SX := up (up (up (up (up y 32 (cst o)) 33 (cst k)) 34 (cst i)) 35 (cst a)) 36 (cst b)
theorem sw_may_168 : ∀ k : Fin 64, ((k.val : Int) = 50) → lsw 200 #[(1, 121), (2, 121), (4, 121), (21, 109), (37, 158), (40, 147), (50, 82), (56, 147), (59, 184)] (k.val : Int) = 82 := by decide +kernel
theorem sw_may_195 : ∀ k : Fin 64, ((k.val : Int) = 21) → lsw 200 #[(1, 121), (2, 121), (4, 121), (21, 109), (37, 158), (40, 147), (50, 82), (56, 147), (59, 184)] (k.val : Int) = 109 := by decide +kernel
theorem sw_may_207 : ∀ k : Fin 64, ((k.val : Int) = 1 ∨ (k.val : Int) = 2 ∨ (k.val : Int) = 4) → lsw 200 #[(1, 121), (2, 121), (4, 121), (21, 109), (37, 158), (40, 147), (50, 82), (56, 147), (59, 184)] (k.val : Int) = 121 := by decide +kernel
theorem sw_may_233 : ∀ k : Fin 64, ((k.val : Int) = 40 ∨ (k.val : Int) = 56) → lsw 200 #[(1, 121), (2, 121), (4, 121), (21, 109), (37, 158), (40, 147), (50, 82), (56, 147), (59, 184)] (k.val : Int) = 147 := by decide +kernel
theorem sw_may_244 : ∀ k : Fin 64, ((k.val : Int) = 37) → lsw 200 #[(1, 121), (2, 121), (4, 121), (21, 109), (37, 158), (40, 147), (50, 82), (56, 147), (59, 184)] (k.val : Int) = 158 := by decide +kernel
theorem sw_may_270 : ∀ k : Fin 64, ((k.val : Int) = 59) → lsw 200 #[(1, 121), (2, 121), (4, 121), (21, 109), (37, 158), (40, 147), (50, 82), (56, 147), (59, 184)] (k.val : Int) = 184 := by decide +kernel
theorem sw_may_d : ∀ k : Fin 64, ¬ ((k.val : Int) = 50 ∨ (k.val : Int) = 21 ∨ (k.val : Int) = 1 ∨ (k.val : Int) = 2 ∨ (k.val : Int) = 4 ∨ (k.val : Int) = 40 ∨ (k.val : Int) = 56 ∨ (k.val : Int) = 37 ∨ (k.val : Int) = 59) → lsw 200 #[(1, 121), (2, 121), (4, 121), (21, 109), (37, 158), (40, 147), (50, 82), (56, 147), (59, 184)] (k.val : Int) = 200 := by decide +kernel
set_option maxHeartbeats 4000000 in
set_option maxRecDepth 100000 in
theorem c_MO_device (l : Launch) (D : va_G) (T : Nat → ClassId) (sz : Nat) (q : Nat → Nat) (n : Nat) (hn : 400 ≤ n ∧ n ≤ 2000) (x y : SX) (hX : okX x) (hY : (0 ≤ y 32 0 ∧ y 32 0 < 64) ∧ (1 ≤ y 33 0 ∧ y 33 0 ≤ 8)) : MI l y_MO_device (wY y_MO_device b_MO_device 2 (some .int)) (rmK 2) D vwCl (tyL T) nwL sz [.ref (q 20)] (moW T q n (x 0) (x 1) (mkF (x 2) (x 18 0)) (cdF (x 2) (x 18 0)) (x 3) (x 4) (x 11 0) (x 12 0) (x 13 0) (x 14 0) (x 15 0) (x 16 0) (x 17 0) (x 18 0) (x 19 0) (x 20 0) (x 21 0) (x 22 0) (y 31 0) (y 32 0) (y 33 0) (y 34 0) (y 35 0) (y 36 0) (y 37) (y 38) (y 39)) (fun r (u : SX × SX) => pst (dvcS (y 32 0) (y 33 0) x) r u.1 ∧ (u.2 31 = y 31 ∧ u.2 33 = y 33)) (fun (u : SX × SX) => moX T q n u.1 u.2) := by
  refine cx_inI (by decide) rfl (Nat.le_of_ble_eq_true rfl) ?_
  intro p e s m below meth cd ls A Q hx hb hml hT hown hret hP hK hD hN hS hA hl
  have hown : s.vm.findClass R_MO = some m.cls := hown
  have hl : lv_has ls 2 [(0, .ref (q 20))] := hl
  have hC := hX.1
  have hR0 := hX.2.1
  have hF := hX.2.2
  unfold okR at hR0
  refine lv_aload_n hx hb d_MO_device_0 rfl (lv_at hl 0 rfl) ?_
  refine va_get (D := D) (ci := 5) (v := .int (iI (y 32 0))) (C := R_MO) (T := T_MO) (N := 28) hx hb hT lays_MO hown hK hP 0 rfl rfl 12 (by decide) (hT _ tw_648) (fun _ h9 => h9) rfl d_MO_device_1 ?_
  refine cx_iconst hx hb d_MO_device_4 ?_
  refine cx_icmp_ne (tgt := 15) hx hb d_MO_device_5 rfl (by omega) (by omega) (fun h5 => ?_) (fun h5 => ?_)
  · refine lv_aload_n hx hb d_MO_device_15 rfl (lv_at hl 0 rfl) ?_
    refine va_get (D := D) (ci := 5) (v := .int (iI (y 32 0))) (C := R_MO) (T := T_MO) (N := 28) hx hb hT lays_MO hown hK hP 0 rfl rfl 12 (by decide) (hT _ tw_648) (fun _ h9 => h9) rfl d_MO_device_16 ?_
    refine cx_iconst hx hb d_MO_device_19 ?_
    refine cx_icmp_ne (tgt := 30) hx hb d_MO_device_20 rfl (by omega) (by omega) (fun h20 => ?_) (fun h20 => ?_)
    · refine lv_aload_n hx hb d_MO_device_30 rfl (lv_at hl 0 rfl) ?_
      refine cx_cI (ws2 := fun (u : SX × SX) => moX T q n u.1 u.2) (cx_rV (q0 := 0) (ci := 5) (rest := []) (As := []) hx hb hml hown hT hK hN hP hD hl.1 tw_878 k_MO_punchCard (c_MO_punchCard l D T s.heap.size q n hn x y hX) ⟨by decide, by decide⟩ ⟨rfl, rfl⟩ [0, 1, 2, 3, 4, 5, 6, 7, 8, 9] (by decide) rfl rfl rfl rfl rfl (Nat.le_of_ble_eq_true rfl) ⟨Nat.zero_le _, Nat.zero_le _⟩ d_MO_device_31) hP hD hS hA [0, 1, 2, 3, 4, 5, 6, 7, 8, 9] [] [0, 1, 2, 3, 4, 5, 6, 7, 8, 9] rfl (wr := []) rfl (by decide) (by decide) (fun _ => rfl) (by decide) (fun r u_ H locs hq31 hP hD hS => ?_)
      obtain ⟨us, ys⟩ := u_
      obtain ⟨⟨hr9, hu9, hE⟩, h319, h339⟩ := hq31
      subst hr9
      have hu9 : us = (filS 4 20 20 101 80 0 x).2 := hu9
      have hE : okX us := hE
      have hP : va_P D vwCl (moW T q n (us 0) (us 1) (mkF (us 2) (us 18 0)) (cdF (us 2) (us 18 0)) (us 3) (us 4) (us 11 0) (us 12 0) (us 13 0) (us 14 0) (us 15 0) (us 16 0) (us 17 0) (us 18 0) (us 19 0) (us 20 0) (us 21 0) (us 22 0) (ys 31 0) (ys 32 0) (ys 33 0) (ys 34 0) (ys 35 0) (ys 36 0) (ys 37) (ys 38) (ys 39)) H := hP
      have hD : va_D A (moW T q n (us 0) (us 1) (mkF (us 2) (us 18 0)) (cdF (us 2) (us 18 0)) (us 3) (us 4) (us 11 0) (us 12 0) (us 13 0) (us 14 0) (us 15 0) (us 16 0) (us 17 0) (us 18 0) (us 19 0) (us 20 0) (us 21 0) (us 22 0) (ys 31 0) (ys 32 0) (ys 33 0) (ys 34 0) (ys 35 0) (ys 36 0) (ys 37) (ys 38) (ys 39)) := hD
      have hq9 := fil_in 4 20 20 101 80 x
      have h338 : ys 33 0 = y 33 0 := congrFun h339 0
      refine lv_istore_n (lv' := [(1, .int (iI ((filS 4 20 20 101 80 0 x).1))), (0, .ref (q 20))]) hx hb d_MO_device_34 rfl hl (by decide) rfl (fun ls hl => ?_)
      refine lv_iload_n hx hb d_MO_device_35 rfl (lv_at hl 0 rfl) ?_
      refine cx_if_ne (tgt := 51) hx hb d_MO_device_36 rfl (by omega) (fun h36 => ?_) (fun h36 => ?_)
      · refine lv_iload_n hx hb d_MO_device_51 rfl (lv_at hl 0 rfl) ?_
        exact hret ((us, ys) : SX × SX) (⟨pst_of (show dvcS (y 32 0) (y 33 0) x = ((filS 4 20 20 101 80 0 x).1, us) by unfold dvcS; rw [if_neg (by omega), if_neg (by omega), fil_g]; by_cases h0 : (filS 4 20 20 101 80 0 x).1 = 0; rw [if_pos h0, if_pos (show y 33 0 < 4 by omega), h0, hu9]; rfl; rw [if_neg h0, hu9]) hE, ⟨h319, h339⟩⟩) hP hD hS d_MO_device_52
      · refine lv_aload_n hx hb d_MO_device_39 rfl (lv_at hl 1 rfl) ?_
        refine va_get (D := D) (ci := 5) (v := .int (iI (ys 33 0))) (C := R_MO) (T := T_MO) (N := 28) hx hb hT lays_MO hown hK hP 0 rfl rfl 13 (by decide) (hT _ tw_649) (fun _ h9 => h9) rfl d_MO_device_40 ?_
        refine cx_iconst hx hb d_MO_device_43 ?_
        refine cx_icmp_le (tgt := 51) hx hb d_MO_device_44 rfl (by omega) (by omega) (fun h44 => ?_) (fun h44 => ?_)
        · refine lv_iload_n hx hb d_MO_device_51 rfl (lv_at hl 0 rfl) ?_
          exact hret ((us, ys) : SX × SX) (⟨pst_of (show dvcS (y 32 0) (y 33 0) x = ((filS 4 20 20 101 80 0 x).1, us) by unfold dvcS; rw [if_neg (by omega), if_neg (by omega), fil_g]; by_cases h0 : (filS 4 20 20 101 80 0 x).1 = 0; rw [if_pos h0, if_pos (show y 33 0 < 4 by omega), h0, hu9]; rfl; rw [if_neg h0, hu9]) hE, ⟨h319, h339⟩⟩) hP hD hS d_MO_device_52
        · refine lv_aload_n hx hb d_MO_device_47 rfl (lv_at hl 1 rfl) ?_
          refine cx_cV (ws2 := fun _ => moW T q n ((goS us) 0) ((goS us) 1) (mkF ((goS us) 2) ((goS us) 18 0)) (cdF ((goS us) 2) ((goS us) 18 0)) ((goS us) 3) ((goS us) 4) ((goS us) 11 0) ((goS us) 12 0) ((goS us) 13 0) ((goS us) 14 0) ((goS us) 15 0) ((goS us) 16 0) ((goS us) 17 0) ((goS us) 18 0) ((goS us) 19 0) ((goS us) 20 0) ((goS us) 21 0) ((goS us) 22 0) (ys 31 0) (ys 32 0) (ys 33 0) (ys 34 0) (ys 35 0) (ys 36 0) (ys 37) (ys 38) (ys 39)) (cx_rV (q0 := 0) (ci := 5) (rest := []) (As := []) hx hb hml hown hT hK hN hP hD hl.1 tw_846 k_MO_go (c_MO_go l D T H.size q n hn us ys hE) ⟨by decide, by decide⟩ ⟨rfl, rfl⟩ [0, 1, 2, 3, 4, 5, 6, 7, 8, 9] (by decide) rfl rfl rfl rfl rfl (Nat.le_of_ble_eq_true rfl) ⟨Nat.zero_le _, Nat.zero_le _⟩ d_MO_device_48) hP hD hS hA [0, 1, 2, 3, 4, 5, 6, 7, 8, 9] [] [0, 1, 2, 3, 4, 5, 6, 7, 8, 9] rfl (wr := []) rfl (by decide) (by decide) (fun _ => rfl) (by decide) (fun u_ H locs hq48 hP hD hS => ?_)
          refine lv_iload_n hx hb d_MO_device_51 rfl (lv_at hl 0 rfl) ?_
          exact hret ((goS us, ys) : SX × SX) (⟨pst_of (show dvcS (y 32 0) (y 33 0) x = ((filS 4 20 20 101 80 0 x).1, goS us) by unfold dvcS; rw [if_neg (by omega), if_neg (by omega), fil_g]; rw [if_pos (show (filS 4 20 20 101 80 0 x).1 = 0 by omega), if_neg (show ¬ y 33 0 < 4 by omega), show (filS 4 20 20 101 80 0 x).1 = 0 by omega, hu9]; rfl) (goS_ok hE), ⟨h319, h339⟩⟩) hP hD hS d_MO_device_52
    · refine lv_aload_n hx hb d_MO_device_23 rfl (lv_at hl 0 rfl) ?_
      refine cx_cI (ws2 := fun (u : SX × SX) => moX T q n u.1 u.2) (cx_rV (q0 := 0) (ci := 5) (rest := []) (As := []) hx hb hml hown hT hK hN hP hD hl.1 tw_874 k_MO_print (c_MO_print l D T s.heap.size q n hn x y hX) ⟨by decide, by decide⟩ ⟨rfl, rfl⟩ [0, 1, 2, 3, 4, 5, 6, 7, 8, 9] (by decide) rfl rfl rfl rfl rfl (Nat.le_of_ble_eq_true rfl) ⟨Nat.zero_le _, Nat.zero_le _⟩ d_MO_device_24) hP hD hS hA [0, 1, 2, 3, 4, 5, 6, 7, 8, 9] [] [0, 1, 2, 3, 4, 5, 6, 7, 8, 9] rfl (wr := []) rfl (by decide) (by decide) (fun _ => rfl) (by decide) (fun r u_ H locs hq24 hP hD hS => ?_)
      obtain ⟨us, ys⟩ := u_
      obtain ⟨⟨hr9, hu9, hE⟩, h319, h339⟩ := hq24
      subst hr9
      have hu9 : us = (filS 3 19 40 201 132 0 x).2 := hu9
      have hE : okX us := hE
      have hP : va_P D vwCl (moW T q n (us 0) (us 1) (mkF (us 2) (us 18 0)) (cdF (us 2) (us 18 0)) (us 3) (us 4) (us 11 0) (us 12 0) (us 13 0) (us 14 0) (us 15 0) (us 16 0) (us 17 0) (us 18 0) (us 19 0) (us 20 0) (us 21 0) (us 22 0) (ys 31 0) (ys 32 0) (ys 33 0) (ys 34 0) (ys 35 0) (ys 36 0) (ys 37) (ys 38) (ys 39)) H := hP
      have hD : va_D A (moW T q n (us 0) (us 1) (mkF (us 2) (us 18 0)) (cdF (us 2) (us 18 0)) (us 3) (us 4) (us 11 0) (us 12 0) (us 13 0) (us 14 0) (us 15 0) (us 16 0) (us 17 0) (us 18 0) (us 19 0) (us 20 0) (us 21 0) (us 22 0) (ys 31 0) (ys 32 0) (ys 33 0) (ys 34 0) (ys 35 0) (ys 36 0) (ys 37) (ys 38) (ys 39)) := hD
      have hq9 := fil_in 3 19 40 201 132 x
      have h338 : ys 33 0 = y 33 0 := congrFun h339 0
      refine lv_goto (tgt := 34) hx hb d_MO_device_27 rfl ?_
      refine lv_istore_n (lv' := [(1, .int (iI ((filS 3 19 40 201 132 0 x).1))), (0, .ref (q 20))]) hx hb d_MO_device_34 rfl hl (by decide) rfl (fun ls hl => ?_)
      refine lv_iload_n hx hb d_MO_device_35 rfl (lv_at hl 0 rfl) ?_
      refine cx_if_ne (tgt := 51) hx hb d_MO_device_36 rfl (by omega) (fun h36 => ?_) (fun h36 => ?_)
      · refine lv_iload_n hx hb d_MO_device_51 rfl (lv_at hl 0 rfl) ?_
        exact hret ((us, ys) : SX × SX) (⟨pst_of (show dvcS (y 32 0) (y 33 0) x = ((filS 3 19 40 201 132 0 x).1, us) by unfold dvcS; rw [if_neg (by omega), if_pos (by omega), fil_g]; by_cases h0 : (filS 3 19 40 201 132 0 x).1 = 0; rw [if_pos h0, if_pos (show y 33 0 < 4 by omega), h0, hu9]; rfl; rw [if_neg h0, hu9]) hE, ⟨h319, h339⟩⟩) hP hD hS d_MO_device_52
      · refine lv_aload_n hx hb d_MO_device_39 rfl (lv_at hl 1 rfl) ?_
        refine va_get (D := D) (ci := 5) (v := .int (iI (ys 33 0))) (C := R_MO) (T := T_MO) (N := 28) hx hb hT lays_MO hown hK hP 0 rfl rfl 13 (by decide) (hT _ tw_649) (fun _ h9 => h9) rfl d_MO_device_40 ?_
        refine cx_iconst hx hb d_MO_device_43 ?_
        refine cx_icmp_le (tgt := 51) hx hb d_MO_device_44 rfl (by omega) (by omega) (fun h44 => ?_) (fun h44 => ?_)
        · refine lv_iload_n hx hb d_MO_device_51 rfl (lv_at hl 0 rfl) ?_
          exact hret ((us, ys) : SX × SX) (⟨pst_of (show dvcS (y 32 0) (y 33 0) x = ((filS 3 19 40 201 132 0 x).1, us) by unfold dvcS; rw [if_neg (by omega), if_pos (by omega), fil_g]; by_cases h0 : (filS 3 19 40 201 132 0 x).1 = 0; rw [if_pos h0, if_pos (show y 33 0 < 4 by omega), h0, hu9]; rfl; rw [if_neg h0, hu9]) hE, ⟨h319, h339⟩⟩) hP hD hS d_MO_device_52
        · refine lv_aload_n hx hb d_MO_device_47 rfl (lv_at hl 1 rfl) ?_
          refine cx_cV (ws2 := fun _ => moW T q n ((goS us) 0) ((goS us) 1) (mkF ((goS us) 2) ((goS us) 18 0)) (cdF ((goS us) 2) ((goS us) 18 0)) ((goS us) 3) ((goS us) 4) ((goS us) 11 0) ((goS us) 12 0) ((goS us) 13 0) ((goS us) 14 0) ((goS us) 15 0) ((goS us) 16 0) ((goS us) 17 0) ((goS us) 18 0) ((goS us) 19 0) ((goS us) 20 0) ((goS us) 21 0) ((goS us) 22 0) (ys 31 0) (ys 32 0) (ys 33 0) (ys 34 0) (ys 35 0) (ys 36 0) (ys 37) (ys 38) (ys 39)) (cx_rV (q0 := 0) (ci := 5) (rest := []) (As := []) hx hb hml hown hT hK hN hP hD hl.1 tw_846 k_MO_go (c_MO_go l D T H.size q n hn us ys hE) ⟨by decide, by decide⟩ ⟨rfl, rfl⟩ [0, 1, 2, 3, 4, 5, 6, 7, 8, 9] (by decide) rfl rfl rfl rfl rfl (Nat.le_of_ble_eq_true rfl) ⟨Nat.zero_le _, Nat.zero_le _⟩ d_MO_device_48) hP hD hS hA [0, 1, 2, 3, 4, 5, 6, 7, 8, 9] [] [0, 1, 2, 3, 4, 5, 6, 7, 8, 9] rfl (wr := []) rfl (by decide) (by decide) (fun _ => rfl) (by decide) (fun u_ H locs hq48 hP hD hS => ?_)
          refine lv_iload_n hx hb d_MO_device_51 rfl (lv_at hl 0 rfl) ?_
          exact hret ((goS us, ys) : SX × SX) (⟨pst_of (show dvcS (y 32 0) (y 33 0) x = ((filS 3 19 40 201 132 0 x).1, goS us) by unfold dvcS; rw [if_neg (by omega), if_pos (by omega), fil_g]; rw [if_pos (show (filS 3 19 40 201 132 0 x).1 = 0 by omega), if_neg (show ¬ y 33 0 < 4 by omega), show (filS 3 19 40 201 132 0 x).1 = 0 by omega, hu9]; rfl) (goS_ok hE), ⟨h319, h339⟩⟩) hP hD hS d_MO_device_52
  · refine lv_aload_n hx hb d_MO_device_8 rfl (lv_at hl 0 rfl) ?_
    refine cx_cI (ws2 := fun (u : SX × SX) => moX T q n u.1 u.2) (cx_rV (q0 := 0) (ci := 5) (rest := []) (As := []) hx hb hml hown hT hK hN hP hD hl.1 tw_870 k_MO_readCard (c_MO_readCard l D T s.heap.size q n hn x y hX) ⟨by decide, by decide⟩ ⟨rfl, rfl⟩ [0, 1, 2, 3, 4, 5, 6, 7, 8, 9] (by decide) rfl rfl rfl rfl rfl (Nat.le_of_ble_eq_true rfl) ⟨Nat.zero_le _, Nat.zero_le _⟩ d_MO_device_9) hP hD hS hA [0, 1, 2, 3, 4, 5, 6, 7, 8, 9] [] [0, 1, 2, 3, 4, 5, 6, 7, 8, 9] rfl (wr := []) rfl (by decide) (by decide) (fun _ => rfl) (by decide) (fun r u_ H locs hq9 hP hD hS => ?_)
    obtain ⟨us, ys⟩ := u_
    obtain ⟨⟨hr9, hu9, hE⟩, h319, h339⟩ := hq9
    subst hr9
    have hu9 : us = (rdcS 0 x).2 := hu9
    have hE : okX us := hE
    have hP : va_P D vwCl (moW T q n (us 0) (us 1) (mkF (us 2) (us 18 0)) (cdF (us 2) (us 18 0)) (us 3) (us 4) (us 11 0) (us 12 0) (us 13 0) (us 14 0) (us 15 0) (us 16 0) (us 17 0) (us 18 0) (us 19 0) (us 20 0) (us 21 0) (us 22 0) (ys 31 0) (ys 32 0) (ys 33 0) (ys 34 0) (ys 35 0) (ys 36 0) (ys 37) (ys 38) (ys 39)) H := hP
    have hD : va_D A (moW T q n (us 0) (us 1) (mkF (us 2) (us 18 0)) (cdF (us 2) (us 18 0)) (us 3) (us 4) (us 11 0) (us 12 0) (us 13 0) (us 14 0) (us 15 0) (us 16 0) (us 17 0) (us 18 0) (us 19 0) (us 20 0) (us 21 0) (us 22 0) (ys 31 0) (ys 32 0) (ys 33 0) (ys 34 0) (ys 35 0) (ys 36 0) (ys 37) (ys 38) (ys 39)) := hD
    have hq9 := rdc_in x
    have h338 : ys 33 0 = y 33 0 := congrFun h339 0
    refine lv_goto (tgt := 34) hx hb d_MO_device_12 rfl ?_
    refine lv_istore_n (lv' := [(1, .int (iI ((rdcS 0 x).1))), (0, .ref (q 20))]) hx hb d_MO_device_34 rfl hl (by decide) rfl (fun ls hl => ?_)
    refine lv_iload_n hx hb d_MO_device_35 rfl (lv_at hl 0 rfl) ?_
    refine cx_if_ne (tgt := 51) hx hb d_MO_device_36 rfl (by omega) (fun h36 => ?_) (fun h36 => ?_)
    · refine lv_iload_n hx hb d_MO_device_51 rfl (lv_at hl 0 rfl) ?_
      exact hret ((us, ys) : SX × SX) (⟨pst_of (show dvcS (y 32 0) (y 33 0) x = ((rdcS 0 x).1, us) by unfold dvcS; rw [if_pos (by omega), rdc_g]; by_cases h0 : (rdcS 0 x).1 = 0; rw [if_pos h0, if_pos (show y 33 0 < 4 by omega), h0, hu9]; rfl; rw [if_neg h0, hu9]) hE, ⟨h319, h339⟩⟩) hP hD hS d_MO_device_52
    · refine lv_aload_n hx hb d_MO_device_39 rfl (lv_at hl 1 rfl) ?_
      refine va_get (D := D) (ci := 5) (v := .int (iI (ys 33 0))) (C := R_MO) (T := T_MO) (N := 28) hx hb hT lays_MO hown hK hP 0 rfl rfl 13 (by decide) (hT _ tw_649) (fun _ h9 => h9) rfl d_MO_device_40 ?_
      refine cx_iconst hx hb d_MO_device_43 ?_
      refine cx_icmp_le (tgt := 51) hx hb d_MO_device_44 rfl (by omega) (by omega) (fun h44 => ?_) (fun h44 => ?_)
      · refine lv_iload_n hx hb d_MO_device_51 rfl (lv_at hl 0 rfl) ?_
        exact hret ((us, ys) : SX × SX) (⟨pst_of (show dvcS (y 32 0) (y 33 0) x = ((rdcS 0 x).1, us) by unfold dvcS; rw [if_pos (by omega), rdc_g]; by_cases h0 : (rdcS 0 x).1 = 0; rw [if_pos h0, if_pos (show y 33 0 < 4 by omega), h0, hu9]; rfl; rw [if_neg h0, hu9]) hE, ⟨h319, h339⟩⟩) hP hD hS d_MO_device_52
      · refine lv_aload_n hx hb d_MO_device_47 rfl (lv_at hl 1 rfl) ?_
        refine cx_cV (ws2 := fun _ => moW T q n ((goS us) 0) ((goS us) 1) (mkF ((goS us) 2) ((goS us) 18 0)) (cdF ((goS us) 2) ((goS us) 18 0)) ((goS us) 3) ((goS us) 4) ((goS us) 11 0) ((goS us) 12 0) ((goS us) 13 0) ((goS us) 14 0) ((goS us) 15 0) ((goS us) 16 0) ((goS us) 17 0) ((goS us) 18 0) ((goS us) 19 0) ((goS us) 20 0) ((goS us) 21 0) ((goS us) 22 0) (ys 31 0) (ys 32 0) (ys 33 0) (ys 34 0) (ys 35 0) (ys 36 0) (ys 37) (ys 38) (ys 39)) (cx_rV (q0 := 0) (ci := 5) (rest := []) (As := []) hx hb hml hown hT hK hN hP hD hl.1 tw_846 k_MO_go (c_MO_go l D T H.size q n hn us ys hE) ⟨by decide, by decide⟩ ⟨rfl, rfl⟩ [0, 1, 2, 3, 4, 5, 6, 7, 8, 9] (by decide) rfl rfl rfl rfl rfl (Nat.le_of_ble_eq_true rfl) ⟨Nat.zero_le _, Nat.zero_le _⟩ d_MO_device_48) hP hD hS hA [0, 1, 2, 3, 4, 5, 6, 7, 8, 9] [] [0, 1, 2, 3, 4, 5, 6, 7, 8, 9] rfl (wr := []) rfl (by decide) (by decide) (fun _ => rfl) (by decide) (fun u_ H locs hq48 hP hD hS => ?_)
        refine lv_iload_n hx hb d_MO_device_51 rfl (lv_at hl 0 rfl) ?_
        exact hret ((goS us, ys) : SX × SX) (⟨pst_of (show dvcS (y 32 0) (y 33 0) x = ((rdcS 0 x).1, goS us) by unfold dvcS; rw [if_pos (by omega), rdc_g]; rw [if_pos (show (rdcS 0 x).1 = 0 by omega), if_neg (show ¬ y 33 0 < 4 by omega), show (rdcS 0 x).1 = 0 by omega, hu9]; rfl) (goS_ok hE), ⟨h319, h339⟩⟩) hP hD hS d_MO_device_52
set_option maxHeartbeats 4000000 in
set_option maxRecDepth 100000 in
theorem c_MO_address (l : Launch) (D : va_G) (T : Nat → ClassId) (sz : Nat) (q : Nat → Nat) (n : Nat) (hn : 400 ≤ n ∧ n ≤ 2000) (x y : SX) (hX : okX x) (z : Int) (hz : 0 ≤ z ∧ z + 2 < n) : MI l y_MO_address (wY y_MO_address b_MO_address 5 (some .int)) (rmK 1) D vwCl (tyL T) nwL sz [.ref (q 20), .int (iI (z))] (moW T q n (x 0) (x 1) (mkF (x 2) (x 18 0)) (cdF (x 2) (x 18 0)) (x 3) (x 4) (x 11 0) (x 12 0) (x 13 0) (x 14 0) (x 15 0) (x 16 0) (x 17 0) (x 18 0) (x 19 0) (x 20 0) (x 21 0) (x 22 0) (y 31 0) (y 32 0) (y 33 0) (y 34 0) (y 35 0) (y 36 0) (y 37) (y 38) (y 39)) (fun r (_ : Unit) => r = iI (adr (x 0) z)) (fun _ => moX T q n x y) := by
  refine cx_inI (by decide) rfl (Nat.le_of_ble_eq_true rfl) ?_
  intro p e s m below meth cd ls A Q hx hb hml hT hown hret hP hK hD hN hS hA hl
  have hown : s.vm.findClass R_MO = some m.cls := hown
  have hl : lv_has ls 5 [(0, .ref (q 20)), (1, .int (iI (z)))] := hl
  have hC := hX.1
  have hR0 := hX.2.1
  have hF := hX.2.2
  unfold okR at hR0
  refine lv_aload_n hx hb d_MO_address_0 rfl (lv_at hl 0 rfl) ?_
  refine va_get (D := D) (ci := 5) (v := .ref (q 21)) (C := R_MO) (T := T_MO) (N := 28) hx hb hT lays_MO hown hK hP 0 rfl rfl 2 (by decide) (hT _ tw_638) (fun _ h9 => h9) rfl d_MO_address_1 ?_
  refine lv_iload_n hx hb d_MO_address_4 rfl (lv_at hl 1 rfl) ?_
  refine cx_bald (g := iF (x 0)) hx hb hK hP 1 1 rfl rfl (by omega) (by omega) d_MO_address_5 ?_
  have hc5 := hC.1 (z)
  refine lv_istore_n (lv' := [(2, .int (iI ((x 0) (z)))), (0, .ref (q 20)), (1, .int (iI (z)))]) hx hb d_MO_address_6 rfl hl (by decide) rfl (fun ls hl => ?_)
  refine lv_aload_n hx hb d_MO_address_7 rfl (lv_at hl 1 rfl) ?_
  refine va_get (D := D) (ci := 5) (v := .ref (q 21)) (C := R_MO) (T := T_MO) (N := 28) hx hb hT lays_MO hown hK hP 0 rfl rfl 2 (by decide) (hT _ tw_638) (fun _ h9 => h9) rfl d_MO_address_8 ?_
  refine lv_iload_n hx hb d_MO_address_11 rfl (lv_at hl 2 rfl) ?_
  refine cx_iconst hx hb d_MO_address_12 ?_
  refine cx_iadd hx hb d_MO_address_13 ?_
  refine cx_bald (g := iF (x 0)) hx hb hK hP 1 1 rfl rfl (by omega) (by omega) d_MO_address_14 ?_
  have hc14 := hC.1 (z + 1)
  refine lv_istore_n (lv' := [(3, .int (iI ((x 0) (z + 1)))), (2, .int (iI ((x 0) (z)))), (0, .ref (q 20)), (1, .int (iI (z)))]) hx hb d_MO_address_15 rfl hl (by decide) rfl (fun ls hl => ?_)
  refine lv_aload_n hx hb d_MO_address_16 rfl (lv_at hl 2 rfl) ?_
  refine va_get (D := D) (ci := 5) (v := .ref (q 21)) (C := R_MO) (T := T_MO) (N := 28) hx hb hT lays_MO hown hK hP 0 rfl rfl 2 (by decide) (hT _ tw_638) (fun _ h9 => h9) rfl d_MO_address_17 ?_
  refine lv_iload_n hx hb d_MO_address_20 rfl (lv_at hl 3 rfl) ?_
  refine cx_iconst hx hb d_MO_address_21 ?_
  refine cx_iadd hx hb d_MO_address_22 ?_
  refine cx_bald (g := iF (x 0)) hx hb hK hP 1 1 rfl rfl (by omega) (by omega) d_MO_address_23 ?_
  have hc23 := hC.1 (z + 2)
  refine lv_istore (lv' := [(4, .int (iI ((x 0) (z + 2)))), (3, .int (iI ((x 0) (z + 1)))), (2, .int (iI ((x 0) (z)))), (0, .ref (q 20)), (1, .int (iI (z)))]) hx hb d_MO_address_24 hl (by decide) rfl (fun ls hl => ?_)
  have hva := vl_in hc5
  have hvb := vl_in hc14
  have hvc := vl_in hc23
  refine cx_bipush hx hb d_MO_address_26 rfl ?_
  refine lv_iload_n hx hb d_MO_address_28 rfl (lv_at hl 2 rfl) ?_
  refine cx_cI (ws2 := fun _ => moW T q n (x 0) (x 1) (mkF (x 2) (x 18 0)) (cdF (x 2) (x 18 0)) (x 3) (x 4) (x 11 0) (x 12 0) (x 13 0) (x 14 0) (x 15 0) (x 16 0) (x 17 0) (x 18 0) (x 19 0) (x 20 0) (x 21 0) (x 22 0) (y 31 0) (y 32 0) (y 33 0) (y 34 0) (y 35 0) (y 36 0) (y 37) (y 38) (y 39)) (cx_rS (rest := [.int (iI (100))]) (As := [.int (iI ((x 0) (z)))]) hx hb hml hown hT hK hN hP hD hl.1 tw_775 k_MO_value (c_MO_value l D T s.heap.size ((x 0) (z)) (by omega)) ⟨by decide, by decide⟩ ⟨rfl, rfl⟩ [] (by decide) rfl rfl rfl (Nat.le_of_ble_eq_true rfl) ⟨Nat.zero_le _, Nat.zero_le _⟩ d_MO_address_29) hP hD hS hA [] [0, 1, 2, 3, 4, 5, 6, 7, 8, 9] [0, 1, 2, 3, 4, 5, 6, 7, 8, 9] rfl (wr := [(q 20, .inr (5, [.int (iI (y 31 0)), .int (iI ((n : Int))), .ref (q 21), .ref (q 22), .int (iI (x 11 0)), .int (iI (x 12 0)), .int (iI (x 13 0)), .int (iI (x 14 0)), .int (iI (x 15 0)), .int (iI (x 16 0)), .int (iI (x 21 0)), .int (iI (x 22 0)), .int (iI (y 32 0)), .int (iI (y 33 0)), .int (iI (y 34 0)), .int (iI (y 35 0)), .int (iI (y 36 0)), .ref (q 23), .int (iI (x 18 0)), .int (iI (x 17 0)), .ref (q 24), .int (iI (x 19 0)), .ref (q 25), .int (iI (x 20 0)), .ref (q 26), .ref (q 27), .ref (q 28), .ref (q 29)])), (q 21, .inl (T 1, 2000, .inl (fun jj : Nat => (iF (x 0)) (jj : Int)))), (q 22, .inl (T 2, 2000, .inl (fun jj : Nat => (iF (x 1)) (jj : Int)))), (q 23, .inl (T 1, 80, .inl (fun jj : Nat => (iF (mkF (x 2) (x 18 0))) (jj : Int)))), (q 24, .inl (T 1, 1600, .inl (fun jj : Nat => (iF (cdF (x 2) (x 18 0))) (jj : Int)))), (q 25, .inl (T 1, 5280, .inl (fun jj : Nat => (iF (x 3)) (jj : Int)))), (q 26, .inl (T 1, 1600, .inl (fun jj : Nat => (iF (x 4)) (jj : Int)))), (q 27, .inl (T 0, 2000, .inl (fun jj : Nat => (iF (y 37)) (jj : Int)))), (q 28, .inl (T 0, 2000, .inl (fun jj : Nat => (iF (y 38)) (jj : Int)))), (q 29, .inl (T 1, 2000, .inl (fun jj : Nat => (iF (y 39)) (jj : Int))))]) rfl (by decide) (by decide) (fun _ => rfl) (by decide) (fun r u_ H locs hq29 hP hD hS => ?_)
  subst hq29
  refine cx_imul hx hb d_MO_address_32 ?_
  refine cx_bipush hx hb d_MO_address_33 rfl ?_
  refine lv_iload_n hx hb d_MO_address_35 rfl (lv_at hl 1 rfl) ?_
  refine cx_cI (ws2 := fun _ => moW T q n (x 0) (x 1) (mkF (x 2) (x 18 0)) (cdF (x 2) (x 18 0)) (x 3) (x 4) (x 11 0) (x 12 0) (x 13 0) (x 14 0) (x 15 0) (x 16 0) (x 17 0) (x 18 0) (x 19 0) (x 20 0) (x 21 0) (x 22 0) (y 31 0) (y 32 0) (y 33 0) (y 34 0) (y 35 0) (y 36 0) (y 37) (y 38) (y 39)) (cx_rS (rest := [.int (iI (10)), .int (iI (100 * (vl ((x 0) (z)))))]) (As := [.int (iI ((x 0) (z + 1)))]) hx hb hml hown hT hK hN hP hD hl.1 tw_775 k_MO_value (c_MO_value l D T H.size ((x 0) (z + 1)) (by omega)) ⟨by decide, by decide⟩ ⟨rfl, rfl⟩ [] (by decide) rfl rfl rfl (Nat.le_of_ble_eq_true rfl) ⟨Nat.zero_le _, Nat.zero_le _⟩ d_MO_address_36) hP hD hS hA [] [0, 1, 2, 3, 4, 5, 6, 7, 8, 9] [0, 1, 2, 3, 4, 5, 6, 7, 8, 9] rfl (wr := [(q 20, .inr (5, [.int (iI (y 31 0)), .int (iI ((n : Int))), .ref (q 21), .ref (q 22), .int (iI (x 11 0)), .int (iI (x 12 0)), .int (iI (x 13 0)), .int (iI (x 14 0)), .int (iI (x 15 0)), .int (iI (x 16 0)), .int (iI (x 21 0)), .int (iI (x 22 0)), .int (iI (y 32 0)), .int (iI (y 33 0)), .int (iI (y 34 0)), .int (iI (y 35 0)), .int (iI (y 36 0)), .ref (q 23), .int (iI (x 18 0)), .int (iI (x 17 0)), .ref (q 24), .int (iI (x 19 0)), .ref (q 25), .int (iI (x 20 0)), .ref (q 26), .ref (q 27), .ref (q 28), .ref (q 29)])), (q 21, .inl (T 1, 2000, .inl (fun jj : Nat => (iF (x 0)) (jj : Int)))), (q 22, .inl (T 2, 2000, .inl (fun jj : Nat => (iF (x 1)) (jj : Int)))), (q 23, .inl (T 1, 80, .inl (fun jj : Nat => (iF (mkF (x 2) (x 18 0))) (jj : Int)))), (q 24, .inl (T 1, 1600, .inl (fun jj : Nat => (iF (cdF (x 2) (x 18 0))) (jj : Int)))), (q 25, .inl (T 1, 5280, .inl (fun jj : Nat => (iF (x 3)) (jj : Int)))), (q 26, .inl (T 1, 1600, .inl (fun jj : Nat => (iF (x 4)) (jj : Int)))), (q 27, .inl (T 0, 2000, .inl (fun jj : Nat => (iF (y 37)) (jj : Int)))), (q 28, .inl (T 0, 2000, .inl (fun jj : Nat => (iF (y 38)) (jj : Int)))), (q 29, .inl (T 1, 2000, .inl (fun jj : Nat => (iF (y 39)) (jj : Int))))]) rfl (by decide) (by decide) (fun _ => rfl) (by decide) (fun r u_ H locs hq36 hP hD hS => ?_)
  subst hq36
  refine cx_imul hx hb d_MO_address_39 ?_
  refine cx_iadd hx hb d_MO_address_40 ?_
  refine lv_iload hx hb d_MO_address_41 (lv_at hl 0 rfl) ?_
  refine cx_cI (ws2 := fun _ => moW T q n (x 0) (x 1) (mkF (x 2) (x 18 0)) (cdF (x 2) (x 18 0)) (x 3) (x 4) (x 11 0) (x 12 0) (x 13 0) (x 14 0) (x 15 0) (x 16 0) (x 17 0) (x 18 0) (x 19 0) (x 20 0) (x 21 0) (x 22 0) (y 31 0) (y 32 0) (y 33 0) (y 34 0) (y 35 0) (y 36 0) (y 37) (y 38) (y 39)) (cx_rS (rest := [.int (iI ((100 * (vl ((x 0) (z)))) + (10 * (vl ((x 0) (z + 1))))))]) (As := [.int (iI ((x 0) (z + 2)))]) hx hb hml hown hT hK hN hP hD hl.1 tw_775 k_MO_value (c_MO_value l D T H.size ((x 0) (z + 2)) (by omega)) ⟨by decide, by decide⟩ ⟨rfl, rfl⟩ [] (by decide) rfl rfl rfl (Nat.le_of_ble_eq_true rfl) ⟨Nat.zero_le _, Nat.zero_le _⟩ d_MO_address_43) hP hD hS hA [] [0, 1, 2, 3, 4, 5, 6, 7, 8, 9] [0, 1, 2, 3, 4, 5, 6, 7, 8, 9] rfl (wr := [(q 20, .inr (5, [.int (iI (y 31 0)), .int (iI ((n : Int))), .ref (q 21), .ref (q 22), .int (iI (x 11 0)), .int (iI (x 12 0)), .int (iI (x 13 0)), .int (iI (x 14 0)), .int (iI (x 15 0)), .int (iI (x 16 0)), .int (iI (x 21 0)), .int (iI (x 22 0)), .int (iI (y 32 0)), .int (iI (y 33 0)), .int (iI (y 34 0)), .int (iI (y 35 0)), .int (iI (y 36 0)), .ref (q 23), .int (iI (x 18 0)), .int (iI (x 17 0)), .ref (q 24), .int (iI (x 19 0)), .ref (q 25), .int (iI (x 20 0)), .ref (q 26), .ref (q 27), .ref (q 28), .ref (q 29)])), (q 21, .inl (T 1, 2000, .inl (fun jj : Nat => (iF (x 0)) (jj : Int)))), (q 22, .inl (T 2, 2000, .inl (fun jj : Nat => (iF (x 1)) (jj : Int)))), (q 23, .inl (T 1, 80, .inl (fun jj : Nat => (iF (mkF (x 2) (x 18 0))) (jj : Int)))), (q 24, .inl (T 1, 1600, .inl (fun jj : Nat => (iF (cdF (x 2) (x 18 0))) (jj : Int)))), (q 25, .inl (T 1, 5280, .inl (fun jj : Nat => (iF (x 3)) (jj : Int)))), (q 26, .inl (T 1, 1600, .inl (fun jj : Nat => (iF (x 4)) (jj : Int)))), (q 27, .inl (T 0, 2000, .inl (fun jj : Nat => (iF (y 37)) (jj : Int)))), (q 28, .inl (T 0, 2000, .inl (fun jj : Nat => (iF (y 38)) (jj : Int)))), (q 29, .inl (T 1, 2000, .inl (fun jj : Nat => (iF (y 39)) (jj : Int))))]) rfl (by decide) (by decide) (fun _ => rfl) (by decide) (fun r u_ H locs hq43 hP hD hS => ?_)
  subst hq43
  refine cx_iadd hx hb d_MO_address_46 ?_
  refine lv_iload_n hx hb d_MO_address_47 rfl (lv_at hl 2 rfl) ?_
  refine cx_iconst hx hb d_MO_address_48 ?_
  refine lv_ishr hx hb d_MO_address_49 ?_
  refine cx_eq ((hb_all hc5).1) ?_
  refine cx_iconst hx hb d_MO_address_50 ?_
  refine lv_iand hx hb d_MO_address_51 ?_
  refine cx_eq ((hb_all hc5).2.2.1) ?_
  refine cx_sipush hx hb d_MO_address_52 rfl ?_
  refine cx_imul hx hb d_MO_address_55 ?_
  refine cx_iadd hx hb d_MO_address_56 ?_
  refine lv_iload_n hx hb d_MO_address_57 rfl (lv_at hl 2 rfl) ?_
  refine cx_iconst hx hb d_MO_address_58 ?_
  refine lv_ishr hx hb d_MO_address_59 ?_
  refine cx_eq ((hb_all hc5).2.1) ?_
  refine cx_iconst hx hb d_MO_address_60 ?_
  refine lv_iand hx hb d_MO_address_61 ?_
  refine cx_eq ((hb_all hc5).2.2.2) ?_
  refine cx_sipush hx hb d_MO_address_62 rfl ?_
  refine cx_imul hx hb d_MO_address_65 ?_
  refine cx_iadd hx hb d_MO_address_66 ?_
  refine lv_iload hx hb d_MO_address_67 (lv_at hl 0 rfl) ?_
  refine cx_iconst hx hb d_MO_address_69 ?_
  refine lv_ishr hx hb d_MO_address_70 ?_
  refine cx_eq ((hb_all hc23).1) ?_
  refine cx_iconst hx hb d_MO_address_71 ?_
  refine lv_iand hx hb d_MO_address_72 ?_
  refine cx_eq ((hb_all hc23).2.2.1) ?_
  refine cx_sipush hx hb d_MO_address_73 rfl ?_
  refine cx_imul hx hb d_MO_address_76 ?_
  refine cx_iadd hx hb d_MO_address_77 ?_
  refine lv_iload hx hb d_MO_address_78 (lv_at hl 0 rfl) ?_
  refine cx_iconst hx hb d_MO_address_80 ?_
  refine lv_ishr hx hb d_MO_address_81 ?_
  refine cx_eq ((hb_all hc23).2.1) ?_
  refine cx_iconst hx hb d_MO_address_82 ?_
  refine lv_iand hx hb d_MO_address_83 ?_
  refine cx_eq ((hb_all hc23).2.2.2) ?_
  refine cx_sipush hx hb d_MO_address_84 rfl ?_
  refine cx_imul hx hb d_MO_address_87 ?_
  refine cx_iadd hx hb d_MO_address_88 ?_
  exact hret () (by unfold adr; congr 1; omega) hP hD hS d_MO_address_89
