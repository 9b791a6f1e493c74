/-! CharMachine: the characters in a long -/

set_option maxHeartbeats 4000000 in
set_option maxRecDepth 100000 in
theorem c_CM_byteOf (l : Launch) (D : va_G) (T : Nat → ClassId) (sz : Nat) (w : Int64) (k : Int) (hk : 0 ≤ k ∧ k < 8) : MI l y_CM_byteOf (wY y_CM_byteOf b_CM_byteOf 3 (some .int)) (rmK 0) D vwCl (tyL T) nwL sz [.long (w), .int (iI (k))] (([] : va_W)) (fun r (_ : Unit) => r = iI (bty w k)) (fun _ => ([] : va_W)) := by
  refine cx_inI (by decide) rfl (Nat.le_of_ble_eq_true rfl) ?_
  intro p e s m below meth cd ls A Q hx hb hml hT hown hret hP hK hD hN hS hA hl
  have hown : s.vm.findClass R_CM = some m.cls := hown
  have hl : lv_has ls 3 [(0, .long (w)), (2, .int (iI (k)))] := hl
  refine lv_lload_n hx hb d_CM_byteOf_0 rfl (lv_at hl 0 rfl) ?_
  refine cx_bipush hx hb d_CM_byteOf_1 rfl ?_
  refine cx_bipush hx hb d_CM_byteOf_3 rfl ?_
  refine lv_iload_n hx hb d_CM_byteOf_5 rfl (lv_at hl 1 rfl) ?_
  refine cx_imul hx hb d_CM_byteOf_6 ?_
  refine cx_isub hx hb d_CM_byteOf_7 ?_
  refine lv_lushr (v := (w.toUInt64 >>> ((iI (56 - 8 * k)).toInt64.toUInt64 &&& Int64.toUInt64 63)).toInt64) hx hb d_CM_byteOf_8 rfl ?_
  refine lv_ldc2 (v := 255) hx hb hown (hT _ tw_213) d_CM_byteOf_9 ?_
  refine lv_land hx hb d_CM_byteOf_12 ?_
  refine lv_l2i (v := iI (bty w k)) hx hb d_CM_byteOf_13 (by rw [sh_U w hk]; exact (bty_i w k).1) ?_
  exact hret () rfl hP hD hS d_CM_byteOf_14

set_option maxHeartbeats 4000000 in
set_option maxRecDepth 100000 in
theorem c_CM_charactersIn (l : Launch) (D : va_G) (T : Nat → ClassId) (sz : Nat) (w : Int64) : MI l y_CM_charactersIn (wY y_CM_charactersIn b_CM_charactersIn 3 (some .int)) (rmK 1) D vwCl (tyL T) nwL sz [.long (w)] (([] : va_W)) (fun r (_ : Unit) => r = iI (pcn w 9 0)) (fun _ => ([] : va_W)) := by
  refine cx_inI (by decide) rfl (Nat.le_of_ble_eq_true rfl) ?_
  intro p e s m below meth cd ls A Q hx hb hml hT hown hret hP hK hD hN hS hA hl
  have hown : s.vm.findClass R_CM = some m.cls := hown
  have hl : lv_has ls 3 [(0, .long (w))] := hl
  refine cx_iconst hx hb d_CM_charactersIn_0 ?_
  refine lv_istore_n (lv' := [(2, .int (iI (0))), (0, .long (w))]) hx hb d_CM_charactersIn_1 rfl hl (by decide) rfl (fun ls hl => ?_)
  have L1 : ∀ (k_ : Nat) (j : Int) (H : Heap) (locs : List Loc) (ls : Array Slot), (0 ≤ j ∧ j ≤ 8 ∧ j + k_ = 9) → (pcn w 9 0 = pcn w k_ j) → va_P D vwCl (([] : va_W)) H → va_D A (([] : va_W)) → va_S A s.heap H locs → lv_has ls 3 [(2, .int (iI (j))), (0, .long (w))] → W p l e (rmK 1) s m ([.long (w)] : List Value).toArray below meth cd H locs 0 0 Q (F0 m 2 ls []) := by
    intro k_
    induction k_ with
    | zero => intro j H locs ls hj hf _ _ _ _; exact absurd hj (by omega)
    | succ k_ ih1 =>
      intro j H locs ls hj hf hP hD hS hl
      refine lv_iload_n hx hb d_CM_charactersIn_2 rfl (lv_at hl 0 rfl) ?_
      refine cx_bipush hx hb d_CM_charactersIn_3 rfl ?_
      refine cx_icmp_ge (tgt := 25) hx hb d_CM_charactersIn_5 rfl (by omega) (by omega) (fun h5 => ?_) (fun h5 => ?_)
      · refine lv_iload_n hx hb d_CM_charactersIn_25 rfl (lv_at hl 0 rfl) ?_
        exact hret () (by rw [hf, pcn, if_neg (by omega)]) hP hD hS d_CM_charactersIn_26
      · refine lv_lload_n hx hb d_CM_charactersIn_8 rfl (lv_at hl 1 rfl) ?_
        refine lv_iload_n hx hb d_CM_charactersIn_9 rfl (lv_at hl 0 rfl) ?_
        refine cx_cI (ws2 := fun _ => ([] : va_W)) (cx_rS (rest := []) (As := [.long (w), .int (iI (j))]) hx hb hml hown hT hK hN hP hD hl.1 tw_210 k_CM_byteOf (c_CM_byteOf l D T H.size w j (by omega)) ⟨by decide, by decide⟩ ⟨rfl, rfl⟩ [] (by decide) rfl rfl rfl (Nat.le_of_ble_eq_true rfl) ⟨Nat.zero_le _, Nat.zero_le _⟩ d_CM_charactersIn_10) hP hD hS hA [] [] [] rfl (wr := []) rfl (by decide) (by decide) (fun _ => rfl) (by decide) (fun r u_ H locs hq10 hP hD hS => ?_)
        subst hq10
        have hb8 := bty_in w j
        refine cx_cI (ws2 := fun _ => ([] : va_W)) (cx_rS (rest := []) (As := [.int (iI (bty w j))]) hx hb hml hown hT hK hN hP hD hl.1 tw_151 k_CM_isCharacter (c_CM_isCharacter l D T H.size (bty w j) (by omega)) ⟨by decide, by decide⟩ ⟨rfl, rfl⟩ [] (by decide) rfl rfl rfl (Nat.le_of_ble_eq_true rfl) ⟨Nat.zero_le _, Nat.zero_le _⟩ d_CM_charactersIn_13) hP hD hS hA [] [] [] rfl (wr := []) rfl (by decide) (by decide) (fun _ => rfl) (by decide) (fun r u_ H locs hq13 hP hD hS => ?_)
        rcases hq13 with ⟨rfl, h13⟩ | ⟨rfl, h13⟩
        · refine cx_if_eq (tgt := 25) hx hb d_CM_charactersIn_16 rfl (by omega) (fun h0 => absurd h0 (by decide)) (fun _ => ?_)
          refine cx_iinc (k := 0) (lv' := [(2, .int (iI (j + 1))), (0, .long (w))]) hx hb d_CM_charactersIn_19 hl rfl (by decide) rfl (fun ls hl => ?_)
          refine lv_goto (tgt := 2) hx hb d_CM_charactersIn_22 rfl ?_
          exact ih1 (j + 1) _ _ _ (by omega) (by rw [hf, pcn, if_pos (by omega)]) hP hD hS (lv_sub hl [0, 1] rfl)
        · refine cx_if_eq (tgt := 25) hx hb d_CM_charactersIn_16 rfl (by omega) (fun _ => ?_) (fun h0 => absurd h0 (by decide))
          refine lv_iload_n hx hb d_CM_charactersIn_25 rfl (lv_at hl 0 rfl) ?_
          exact hret () (by rw [hf, pcn, if_neg (by omega)]) hP hD hS d_CM_charactersIn_26
  exact L1 9 0 _ _ _ (by omega) rfl hP hD hS (lv_sub hl [0, 1] rfl)
