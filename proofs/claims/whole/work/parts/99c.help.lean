/-! the law's helpers: each calls the object, and tells by a number what was thrown -/
set_option maxRecDepth 100000 in
theorem tw_201 : (Jvm.Cond.codeWith ({ cls := "CharMachineLaw", name := "put", desc := "(LCharMachine;IJI[J)I" } : Jvm.MethodName) method_3_code (7 : Nat) (Option.some Jvm.ClassFile.FieldType.int) [((0 : Nat), (13 : Nat), (16 : Nat), (13 : Nat))]) ∈ BIG := List.mem_filter.mpr ⟨List.mem_of_getElem? (i := 255) rfl, rfl⟩
theorem kh_LA_put : okH y_LA_put b_LA_put 7 (some .int) [(0, 13, 16, 13)] 5 := ⟨tw_201, tw_200, tw_0, by decide +kernel, by decide +kernel, by decide +kernel⟩
set_option maxHeartbeats 4000000 in
set_option maxRecDepth 100000 in
theorem c_LA_put (l : Launch) (D : va_G) (T : Nat → ClassId) (sz : Nat) (q : Nat → Nat) (n : Nat) (hn : 400 ≤ n ∧ n ≤ 2000) (d : Int → Int) (x : SX) (hX : okX x) (hlt : l.stackTraces = false) (o : Nat) (g : Nat → Int64) (z : Int) (hz : -2147483648 ≤ z ∧ z < 2147483648) (w : Int64) (mm : Int) : MH l y_LA_put (wH y_LA_put b_LA_put 7 (some .int) [(0, 13, 16, 13)]) (rmX 7) D vwCl (tyL T) nwL sz [.ref (q 0), .int (iI (z)), .long (w), .int (iI (mm)), .ref (o)] ((o, .inl (T 3, 1, .inr (.inl g))) :: (cmW T q n d (x 0) (x 1) (x 2) (x 3) (x 4) (x 11 0) (x 12 0) (x 13 0) (x 14 0) (x 15 0) (x 16 0) (x 17 0) (x 18 0) (x 19 0) (x 20 0) (x 21 0) (x 22 0))) (fun r (u : SX × (Int → Int) × (Nat → Int64)) => (r = iI 0 ∧ ¬ (0 < pcn w 9 0 ∧ ¬ (0 ≤ z ∧ z + pcn w 9 0 ≤ n)) ∧ u.1 = putX z w mm x ∧ okX u.1 ∧ u.2.2 0 = (iI (pcn w 9 0)).toInt64) ∨ (r = iI 1 ∧ (0 < pcn w 9 0 ∧ ¬ (0 ≤ z ∧ z + pcn w 9 0 ≤ n)) ∧ u.1 = x)) (fun (u : SX × (Int → Int) × (Nat → Int64)) => (o, .inl (T 3, 1, .inr (.inl u.2.2))) :: cmX T q n u.2.1 u.1) := by
  refine cx_inH (by decide) rfl (Nat.le_of_ble_eq_true rfl) ?_
  intro p e s m below meth cd ls A Q hx hb hml hT hown htab hZ hret hP hK hD hN hS hA hl
  have hown : s.vm.findClass R_LA = some m.cls := hown
  have hl : lv_has ls 7 [(0, .ref (q 0)), (1, .int (iI (z))), (2, .long (w)), (4, .int (iI (mm))), (5, .ref (o))] := hl
  have hC := hX.1
  have hR0 := hX.2.1
  have hF := hX.2.2
  unfold okR at hR0
  refine lv_aload hx hb d_LA_put_0 (lv_at hl 4 rfl) ?_
  refine cx_iconst hx hb d_LA_put_2 ?_
  refine lv_aload_n hx hb d_LA_put_3 rfl (lv_at hl 0 rfl) ?_
  refine lv_iload_n hx hb d_LA_put_4 rfl (lv_at hl 1 rfl) ?_
  refine lv_lload_n hx hb d_LA_put_5 rfl (lv_at hl 2 rfl) ?_
  refine lv_iload hx hb d_LA_put_6 (lv_at hl 3 rfl) ?_
  refine cx_cXI (ws2 := fun (u : SX) => (o, .inl (T 3, 1, .inr (.inl g))) :: (cmW T q n d (u 0) (u 1) (u 2) (u 3) (u 4) (u 11 0) (u 12 0) (u 13 0) (u 14 0) (u 15 0) (u 16 0) (u 17 0) (u 18 0) (u 19 0) (u 20 0) (u 21 0) (u 22 0))) (cx_rVX (q0 := 1) (ci := 4) (rest := [.int (iI (0)), .ref (o)]) (As := [.int (iI (z)), .long (w), .int (iI (mm))]) hx hb hml hown hT hK hN hP hD hS hA hZ.1 hl.1 tw_203 k_CM_put (c_CM_put l D T s.heap.size q n hn d x hX hlt z hz w mm) ⟨by decide, by decide⟩ ⟨rfl, rfl⟩ [1, 2, 3, 4, 5, 6, 7, 8, 9, 10, 11, 12] (by decide) rfl rfl rfl rfl rfl (Nat.le_of_ble_eq_true rfl) ⟨by decide, by decide⟩ d_LA_put_8) hP hD hS hA [1, 2, 3, 4, 5, 6, 7, 8, 9, 10, 11, 12] [0] [0, 1, 2, 3, 4, 5, 6, 7, 8, 9, 10, 11, 12] rfl (wr := [(o, .inl (T 3, 1, .inr (.inl g)))]) rfl (by decide) (by decide) (fun _ => rfl) rfl (by decide) ?_ ?_
  · intro E9 ce9 q9 H locs hth hP hD hS hc9 hv9 hf9
    obtain ⟨rfl, hth⟩ := hth
    refine vx_catch (own := R_LA) (name := xIA) hown [] ⟨0, 13, 16, 13⟩ [] htab (fun _ h9 => absurd h9 List.not_mem_nil) (by decide) (by decide) (hT _ tw_202) (va_Nw.use rfl (hZ.1.2.2 (Cond.castable xIA xIA) (by decide))) hc9 hv9 hf9 ?_
    refine lv_astore (lv' := [(6, .ref (q9)), (0, .ref (q 0)), (1, .int (iI (z))), (2, .long (w)), (4, .int (iI (mm))), (5, .ref (o))]) hx hb d_LA_put_16 hl (by decide) rfl (fun ls hl => ?_)
    refine cx_iconst hx hb d_LA_put_18 ?_
    exact hret ((x, d, g) : SX × (Int → Int) × (Nat → Int64)) (by omega) (by omega) (Or.inr ⟨rfl, hth, rfl⟩) hP hD hS d_LA_put_19
  · intro r9 u_ H locs hq9 hP hD hS
    obtain ⟨⟨rfl, he9, hE9⟩, hc8⟩ := hq9
    refine lv_i2l (v := (iI (pcn w 9 0)).toInt64) hx hb d_LA_put_11 rfl ?_
    refine cx_last hx hb hK hP hD hS 0 rfl d_LA_put_12 (fun g9 H locs hg9 hP hD hS => ?_)
    have hP : va_P D vwCl ((o, .inl (T 3, 1, .inr (.inl g9))) :: (cmW T q n d (u_ 0) (u_ 1) (u_ 2) (u_ 3) (u_ 4) (u_ 11 0) (u_ 12 0) (u_ 13 0) (u_ 14 0) (u_ 15 0) (u_ 16 0) (u_ 17 0) (u_ 18 0) (u_ 19 0) (u_ 20 0) (u_ 21 0) (u_ 22 0))) H := hP
    have hD : va_D A ((o, .inl (T 3, 1, .inr (.inl g9))) :: (cmW T q n d (u_ 0) (u_ 1) (u_ 2) (u_ 3) (u_ 4) (u_ 11 0) (u_ 12 0) (u_ 13 0) (u_ 14 0) (u_ 15 0) (u_ 16 0) (u_ 17 0) (u_ 18 0) (u_ 19 0) (u_ 20 0) (u_ 21 0) (u_ 22 0))) := hD
    refine lv_goto (tgt := 20) hx hb d_LA_put_13 rfl ?_
    refine cx_iconst hx hb d_LA_put_20 ?_
    exact hret ((u_, d, g9) : SX × (Int → Int) × (Nat → Int64)) (by omega) (by omega) (Or.inl ⟨rfl, hc8, he9, hE9, hg9⟩) hP hD hS d_LA_put_21

set_option maxRecDepth 100000 in
theorem tw_280 : (Jvm.Cond.codeWith ({ cls := "CharMachineLaw", name := "card", desc := "(LCharMachine;[J)I" } : Jvm.MethodName) method_4_code (3 : Nat) (Option.some Jvm.ClassFile.FieldType.int) [((0 : Nat), (8 : Nat), (11 : Nat), (19 : Nat))]) ∈ BIG := List.mem_filter.mpr ⟨List.mem_of_getElem? (i := 334) rfl, rfl⟩
theorem kh_LA_card : okH y_LA_card b_LA_card 3 (some .int) [(0, 8, 11, 19)] 2 := ⟨tw_280, tw_279, tw_0, by decide +kernel, by decide +kernel, by decide +kernel⟩
set_option maxHeartbeats 4000000 in
set_option maxRecDepth 100000 in
theorem c_LA_card (l : Launch) (D : va_G) (T : Nat → ClassId) (sz : Nat) (q : Nat → Nat) (n : Nat) (hn : 400 ≤ n ∧ n ≤ 2000) (d : Int → Int) (x : SX) (hX : okX x) (hlt : l.stackTraces = false) (o : Nat) (g : Nat → Int64)  : MH l y_LA_card (wH y_LA_card b_LA_card 3 (some .int) [(0, 8, 11, 19)]) (rmX 7) D vwCl (tyL T) nwL sz [.ref (q 0), .ref (o)] ((o, .inl (T 3, 1, .inr (.inl g))) :: (cmW T q n d (x 0) (x 1) (x 2) (x 3) (x 4) (x 11 0) (x 12 0) (x 13 0) (x 14 0) (x 15 0) (x 16 0) (x 17 0) (x 18 0) (x 19 0) (x 20 0) (x 21 0) (x 22 0))) (fun r (u : SX × (Int → Int) × (Nat → Int64)) => (r = iI 0 ∧ x 18 0 < 20 ∧ u.1 = up x 18 (cst (x 18 0 + 1)) ∧ okX u.1 ∧ u.2.2 0 = (iI (x 18 0 + 1 - x 17 0)).toInt64) ∨ (r = iI 1 ∧ ¬ x 18 0 < 20 ∧ u.1 = x)) (fun (u : SX × (Int → Int) × (Nat → Int64)) => (o, .inl (T 3, 1, .inr (.inl u.2.2))) :: cmX T q n u.2.1 u.1) := by
  refine cx_inH (by decide) rfl (Nat.le_of_ble_eq_true rfl) ?_
  intro p e s m below meth cd ls A Q hx hb hml hT hown htab hZ hret hP hK hD hN hS hA hl
  have hown : s.vm.findClass R_LA = some m.cls := hown
  have hl : lv_has ls 3 [(0, .ref (q 0)), (1, .ref (o))] := hl
  have hC := hX.1
  have hR0 := hX.2.1
  have hF := hX.2.2
  unfold okR at hR0
  refine lv_aload_n hx hb d_LA_card_0 rfl (lv_at hl 1 rfl) ?_
  refine cx_iconst hx hb d_LA_card_1 ?_
  refine lv_aload_n hx hb d_LA_card_2 rfl (lv_at hl 0 rfl) ?_
  refine cx_cXI (ws2 := fun (u : SX) => (o, .inl (T 3, 1, .inr (.inl g))) :: (cmW T q n d (u 0) (u 1) (u 2) (u 3) (u 4) (u 11 0) (u 12 0) (u 13 0) (u 14 0) (u 15 0) (u 16 0) (u 17 0) (u 18 0) (u 19 0) (u 20 0) (u 21 0) (u 22 0))) (cx_rVX (q0 := 1) (ci := 4) (rest := [.int (iI (0)), .ref (o)]) (As := []) hx hb hml hown hT hK hN hP hD hS hA hZ.1 hl.1 tw_282 k_CM_card (c_CM_card l D T s.heap.size q n hn d x hX hlt) ⟨by decide, by decide⟩ ⟨rfl, rfl⟩ [1, 2, 3, 4, 5, 6, 7, 8, 9, 10, 11, 12] (by decide) rfl rfl rfl rfl rfl (Nat.le_of_ble_eq_true rfl) ⟨by decide, by decide⟩ d_LA_card_3) hP hD hS hA [1, 2, 3, 4, 5, 6, 7, 8, 9, 10, 11, 12] [0] [0, 1, 2, 3, 4, 5, 6, 7, 8, 9, 10, 11, 12] rfl (wr := [(o, .inl (T 3, 1, .inr (.inl g)))]) rfl (by decide) (by decide) (fun _ => rfl) rfl (by decide) ?_ ?_
  · intro E9 ce9 q9 H locs hth hP hD hS hc9 hv9 hf9
    obtain ⟨rfl, hth⟩ := hth
    refine vx_catch (own := R_LA) (name := xIS) hown [] ⟨0, 8, 11, 19⟩ [] htab (fun _ h9 => absurd h9 List.not_mem_nil) (by decide) (by decide) (hT _ tw_281) (va_Nw.use rfl (hZ.1.2.2 (Cond.castable xIS xIS) (by decide))) hc9 hv9 hf9 ?_
    refine lv_astore_n (lv' := [(2, .ref (q9)), (0, .ref (q 0)), (1, .ref (o))]) hx hb d_LA_card_11 rfl hl (by decide) rfl (fun ls hl => ?_)
    refine cx_iconst hx hb d_LA_card_12 ?_
    exact hret ((x, d, g) : SX × (Int → Int) × (Nat → Int64)) (by omega) (by omega) (Or.inr ⟨rfl, hth, rfl⟩) hP hD hS d_LA_card_13
  · intro r9 u_ H locs hq9 hP hD hS
    obtain ⟨hc8, rfl, he9, hE9⟩ := hq9
    refine lv_i2l (v := (iI ((x 18 0 + 1 - x 17 0, up x 18 (cst (x 18 0 + 1))).1)).toInt64) hx hb d_LA_card_6 rfl ?_
    refine cx_last hx hb hK hP hD hS 0 rfl d_LA_card_7 (fun g9 H locs hg9 hP hD hS => ?_)
    have hP : va_P D vwCl ((o, .inl (T 3, 1, .inr (.inl g9))) :: (cmW T q n d (u_ 0) (u_ 1) (u_ 2) (u_ 3) (u_ 4) (u_ 11 0) (u_ 12 0) (u_ 13 0) (u_ 14 0) (u_ 15 0) (u_ 16 0) (u_ 17 0) (u_ 18 0) (u_ 19 0) (u_ 20 0) (u_ 21 0) (u_ 22 0))) H := hP
    have hD : va_D A ((o, .inl (T 3, 1, .inr (.inl g9))) :: (cmW T q n d (u_ 0) (u_ 1) (u_ 2) (u_ 3) (u_ 4) (u_ 11 0) (u_ 12 0) (u_ 13 0) (u_ 14 0) (u_ 15 0) (u_ 16 0) (u_ 17 0) (u_ 18 0) (u_ 19 0) (u_ 20 0) (u_ 21 0) (u_ 22 0))) := hD
    refine lv_goto (tgt := 14) hx hb d_LA_card_8 rfl ?_
    refine cx_iconst hx hb d_LA_card_14 ?_
    exact hret ((u_, d, g9) : SX × (Int → Int) × (Nat → Int64)) (by omega) (by omega) (Or.inl ⟨rfl, hc8, he9, hE9, hg9⟩) hP hD hS d_LA_card_15

set_option maxRecDepth 100000 in
theorem tw_311 : (Jvm.Cond.codeWith ({ cls := "CharMachineLaw", name := "run", desc := "(LCharMachine;I[J)I" } : Jvm.MethodName) method_5_code (4 : Nat) (Option.some Jvm.ClassFile.FieldType.int) [((0 : Nat), (9 : Nat), (12 : Nat), (13 : Nat))]) ∈ BIG := List.mem_filter.mpr ⟨List.mem_of_getElem? (i := 365) rfl, rfl⟩
theorem kh_LA_run : okH y_LA_run b_LA_run 4 (some .int) [(0, 9, 12, 13)] 3 := ⟨tw_311, tw_310, tw_0, by decide +kernel, by decide +kernel, by decide +kernel⟩
set_option maxHeartbeats 4000000 in
set_option maxRecDepth 100000 in
theorem c_LA_run (l : Launch) (D : va_G) (T : Nat → ClassId) (sz : Nat) (q : Nat → Nat) (n : Nat) (hn : 400 ≤ n ∧ n ≤ 2000) (d : Int → Int) (x : SX) (hX : okX x) (hlt : l.stackTraces = false) (o : Nat) (g : Nat → Int64) (v : Int) (hv : -2147483648 ≤ v ∧ v < 2147483648) : MH l y_LA_run (wH y_LA_run b_LA_run 4 (some .int) [(0, 9, 12, 13)]) (rmX 7) D vwCl (tyL T) nwL sz [.ref (q 0), .int (iI (v)), .ref (o)] ((o, .inl (T 3, 1, .inr (.inl g))) :: (cmW T q n d (x 0) (x 1) (x 2) (x 3) (x 4) (x 11 0) (x 12 0) (x 13 0) (x 14 0) (x 15 0) (x 16 0) (x 17 0) (x 18 0) (x 19 0) (x 20 0) (x 21 0) (x 22 0))) (fun r (u : SX × (Int → Int) × (Nat → Int64)) => (r = iI 0 ∧ (1 ≤ v ∧ v ≤ 20000) ∧ u.1 = (runS n v x).2 ∧ okX u.1 ∧ u.2.2 0 = (iI ((runS n v x).1)).toInt64) ∨ (r = iI 1 ∧ ¬ (1 ≤ v ∧ v ≤ 20000) ∧ u.1 = x)) (fun (u : SX × (Int → Int) × (Nat → Int64)) => (o, .inl (T 3, 1, .inr (.inl u.2.2))) :: cmX T q n u.2.1 u.1) := by
  refine cx_inH (by decide) rfl (Nat.le_of_ble_eq_true rfl) ?_
  intro p e s m below meth cd ls A Q hx hb hml hT hown htab hZ hret hP hK hD hN hS hA hl
  have hown : s.vm.findClass R_LA = some m.cls := hown
  have hl : lv_has ls 4 [(0, .ref (q 0)), (1, .int (iI (v))), (2, .ref (o))] := hl
  have hC := hX.1
  have hR0 := hX.2.1
  have hF := hX.2.2
  unfold okR at hR0
  refine lv_aload_n hx hb d_LA_run_0 rfl (lv_at hl 2 rfl) ?_
  refine cx_iconst hx hb d_LA_run_1 ?_
  refine lv_aload_n hx hb d_LA_run_2 rfl (lv_at hl 0 rfl) ?_
  refine lv_iload_n hx hb d_LA_run_3 rfl (lv_at hl 1 rfl) ?_
  refine cx_cXI (ws2 := fun (u : SX × (Int → Int)) => (o, .inl (T 3, 1, .inr (.inl g))) :: (cmW T q n u.2 (u.1 0) (u.1 1) (u.1 2) (u.1 3) (u.1 4) (u.1 11 0) (u.1 12 0) (u.1 13 0) (u.1 14 0) (u.1 15 0) (u.1 16 0) (u.1 17 0) (u.1 18 0) (u.1 19 0) (u.1 20 0) (u.1 21 0) (u.1 22 0))) (cx_rVX (q0 := 1) (ci := 4) (rest := [.int (iI (0)), .ref (o)]) (As := [.int (iI (v))]) hx hb hml hown hT hK hN hP hD hS hA hZ.1 hl.1 tw_312 k_CM_run (c_CM_run l D T s.heap.size q n hn d x hX hlt v hv) ⟨by decide, by decide⟩ ⟨rfl, rfl⟩ [1, 2, 3, 4, 5, 6, 7, 8, 9, 10, 11, 12] (by decide) rfl rfl rfl rfl rfl (Nat.le_of_ble_eq_true rfl) ⟨by decide, by decide⟩ d_LA_run_4) hP hD hS hA [1, 2, 3, 4, 5, 6, 7, 8, 9, 10, 11, 12] [0] [0, 1, 2, 3, 4, 5, 6, 7, 8, 9, 10, 11, 12] rfl (wr := [(o, .inl (T 3, 1, .inr (.inl g)))]) rfl (by decide) (by decide) (fun _ => rfl) rfl (by decide) ?_ ?_
  · intro E9 ce9 q9 H locs hth hP hD hS hc9 hv9 hf9
    obtain ⟨rfl, hth⟩ := hth
    refine vx_catch (own := R_LA) (name := xIA) hown [] ⟨0, 9, 12, 13⟩ [] htab (fun _ h9 => absurd h9 List.not_mem_nil) (by decide) (by decide) (hT _ tw_202) (va_Nw.use rfl (hZ.1.2.2 (Cond.castable xIA xIA) (by decide))) hc9 hv9 hf9 ?_
    refine lv_astore_n (lv' := [(3, .ref (q9)), (0, .ref (q 0)), (1, .int (iI (v))), (2, .ref (o))]) hx hb d_LA_run_12 rfl hl (by decide) rfl (fun ls hl => ?_)
    refine cx_iconst hx hb d_LA_run_13 ?_
    exact hret ((x, d, g) : SX × (Int → Int) × (Nat → Int64)) (by omega) (by omega) (Or.inr ⟨rfl, hth, rfl⟩) hP hD hS d_LA_run_14
  · intro r9 u_ H locs hq9 hP hD hS
    obtain ⟨hc8, rfl, he9, hE9⟩ := hq9
    refine lv_i2l (v := (iI ((runS n v x).1)).toInt64) hx hb d_LA_run_7 rfl ?_
    refine cx_last hx hb hK hP hD hS 0 rfl d_LA_run_8 (fun g9 H locs hg9 hP hD hS => ?_)
    have hP : va_P D vwCl ((o, .inl (T 3, 1, .inr (.inl g9))) :: (cmW T q n u_.2 (u_.1 0) (u_.1 1) (u_.1 2) (u_.1 3) (u_.1 4) (u_.1 11 0) (u_.1 12 0) (u_.1 13 0) (u_.1 14 0) (u_.1 15 0) (u_.1 16 0) (u_.1 17 0) (u_.1 18 0) (u_.1 19 0) (u_.1 20 0) (u_.1 21 0) (u_.1 22 0))) H := hP
    have hD : va_D A ((o, .inl (T 3, 1, .inr (.inl g9))) :: (cmW T q n u_.2 (u_.1 0) (u_.1 1) (u_.1 2) (u_.1 3) (u_.1 4) (u_.1 11 0) (u_.1 12 0) (u_.1 13 0) (u_.1 14 0) (u_.1 15 0) (u_.1 16 0) (u_.1 17 0) (u_.1 18 0) (u_.1 19 0) (u_.1 20 0) (u_.1 21 0) (u_.1 22 0))) := hD
    refine lv_goto (tgt := 15) hx hb d_LA_run_9 rfl ?_
    refine cx_iconst hx hb d_LA_run_15 ?_
    exact hret ((u_.1, u_.2, g9) : SX × (Int → Int) × (Nat → Int64)) (by omega) (by omega) (Or.inl ⟨rfl, hc8, he9, hE9, hg9⟩) hP hD hS d_LA_run_16

set_option maxRecDepth 100000 in
theorem tw_554 : (Jvm.Cond.codeWith ({ cls := "CharMachineLaw", name := "at", desc := "(LCharMachine;I[J)I" } : Jvm.MethodName) method_6_code (4 : Nat) (Option.some Jvm.ClassFile.FieldType.int) [((0 : Nat), (9 : Nat), (12 : Nat), (28 : Nat))]) ∈ BIG := List.mem_filter.mpr ⟨List.mem_of_getElem? (i := 608) rfl, rfl⟩
theorem kh_LA_at : okH y_LA_at b_LA_at 4 (some .int) [(0, 9, 12, 28)] 3 := ⟨tw_554, tw_553, tw_0, by decide +kernel, by decide +kernel, by decide +kernel⟩
set_option maxHeartbeats 4000000 in
set_option maxRecDepth 100000 in
theorem c_LA_at (l : Launch) (D : va_G) (T : Nat → ClassId) (sz : Nat) (q : Nat → Nat) (n : Nat) (hn : 400 ≤ n ∧ n ≤ 2000) (d : Int → Int) (x : SX) (hX : okX x) (hlt : l.stackTraces = false) (o : Nat) (g : Nat → Int64) (z : Int) (hz : -2147483648 ≤ z ∧ z < 2147483648) : MH l y_LA_at (wH y_LA_at b_LA_at 4 (some .int) [(0, 9, 12, 28)]) (rmX 7) D vwCl (tyL T) nwL sz [.ref (q 0), .int (iI (z)), .ref (o)] ((o, .inl (T 3, 1, .inr (.inl g))) :: (cmW T q n d (x 0) (x 1) (x 2) (x 3) (x 4) (x 11 0) (x 12 0) (x 13 0) (x 14 0) (x 15 0) (x 16 0) (x 17 0) (x 18 0) (x 19 0) (x 20 0) (x 21 0) (x 22 0))) (fun r (u : SX × (Int → Int) × (Nat → Int64)) => (r = iI 0 ∧ (0 ≤ z ∧ z < n) ∧ u.1 = x ∧ u.2.2 0 = (iI (x 0 z)).toInt64) ∨ (r = iI 1 ∧ ¬ (0 ≤ z ∧ z < n) ∧ u.1 = x)) (fun (u : SX × (Int → Int) × (Nat → Int64)) => (o, .inl (T 3, 1, .inr (.inl u.2.2))) :: cmX T q n u.2.1 u.1) := by
  refine cx_inH (by decide) rfl (Nat.le_of_ble_eq_true rfl) ?_
  intro p e s m below meth cd ls A Q hx hb hml hT hown htab hZ hret hP hK hD hN hS hA hl
  have hown : s.vm.findClass R_LA = some m.cls := hown
  have hl : lv_has ls 4 [(0, .ref (q 0)), (1, .int (iI (z))), (2, .ref (o))] := hl
  have hC := hX.1
  have hR0 := hX.2.1
  have hF := hX.2.2
  unfold okR at hR0
  refine lv_aload_n hx hb d_LA_at_0 rfl (lv_at hl 2 rfl) ?_
  refine cx_iconst hx hb d_LA_at_1 ?_
  refine lv_aload_n hx hb d_LA_at_2 rfl (lv_at hl 0 rfl) ?_
  refine lv_iload_n hx hb d_LA_at_3 rfl (lv_at hl 1 rfl) ?_
  refine cx_cXI (ws2 := fun (_ : Unit) => (o, .inl (T 3, 1, .inr (.inl g))) :: (cmW T q n d (x 0) (x 1) (x 2) (x 3) (x 4) (x 11 0) (x 12 0) (x 13 0) (x 14 0) (x 15 0) (x 16 0) (x 17 0) (x 18 0) (x 19 0) (x 20 0) (x 21 0) (x 22 0))) (cx_rVX (q0 := 1) (ci := 4) (rest := [.int (iI (0)), .ref (o)]) (As := [.int (iI (z))]) hx hb hml hown hT hK hN hP hD hS hA hZ.1 hl.1 tw_556 k_CM_at (c_CM_at l D T s.heap.size q n hn d x hX hlt z hz) ⟨by decide, by decide⟩ ⟨rfl, rfl⟩ [1, 2, 3, 4, 5, 6, 7, 8, 9, 10, 11, 12] (by decide) rfl rfl rfl rfl rfl (Nat.le_of_ble_eq_true rfl) ⟨by decide, by decide⟩ d_LA_at_4) hP hD hS hA [1, 2, 3, 4, 5, 6, 7, 8, 9, 10, 11, 12] [0] [0, 1, 2, 3, 4, 5, 6, 7, 8, 9, 10, 11, 12] rfl (wr := [(o, .inl (T 3, 1, .inr (.inl g)))]) rfl (by decide) (by decide) (fun _ => rfl) rfl (by decide) ?_ ?_
  · intro E9 ce9 q9 H locs hth hP hD hS hc9 hv9 hf9
    obtain ⟨rfl, hth⟩ := hth
    refine vx_catch (own := R_LA) (name := xIO) hown [] ⟨0, 9, 12, 28⟩ [] htab (fun _ h9 => absurd h9 List.not_mem_nil) (by decide) (by decide) (hT _ tw_555) (va_Nw.use rfl (hZ.1.2.2 (Cond.castable xIO xIO) (by decide))) hc9 hv9 hf9 ?_
    refine lv_astore_n (lv' := [(3, .ref (q9)), (0, .ref (q 0)), (1, .int (iI (z))), (2, .ref (o))]) hx hb d_LA_at_12 rfl hl (by decide) rfl (fun ls hl => ?_)
    refine cx_iconst hx hb d_LA_at_13 ?_
    exact hret ((x, d, g) : SX × (Int → Int) × (Nat → Int64)) (by omega) (by omega) (Or.inr ⟨rfl, by omega, rfl⟩) hP hD hS d_LA_at_14
  · intro r9 u_ H locs hq9 hP hD hS
    obtain ⟨rfl, hc8⟩ := hq9
    refine lv_i2l (v := (iI (x 0 z)).toInt64) hx hb d_LA_at_7 rfl ?_
    refine cx_last hx hb hK hP hD hS 0 rfl d_LA_at_8 (fun g9 H locs hg9 hP hD hS => ?_)
    have hP : va_P D vwCl ((o, .inl (T 3, 1, .inr (.inl g9))) :: (cmW T q n d (x 0) (x 1) (x 2) (x 3) (x 4) (x 11 0) (x 12 0) (x 13 0) (x 14 0) (x 15 0) (x 16 0) (x 17 0) (x 18 0) (x 19 0) (x 20 0) (x 21 0) (x 22 0))) H := hP
    have hD : va_D A ((o, .inl (T 3, 1, .inr (.inl g9))) :: (cmW T q n d (x 0) (x 1) (x 2) (x 3) (x 4) (x 11 0) (x 12 0) (x 13 0) (x 14 0) (x 15 0) (x 16 0) (x 17 0) (x 18 0) (x 19 0) (x 20 0) (x 21 0) (x 22 0))) := hD
    refine lv_goto (tgt := 15) hx hb d_LA_at_9 rfl ?_
    refine cx_iconst hx hb d_LA_at_15 ?_
    exact hret ((x, d, g9) : SX × (Int → Int) × (Nat → Int64)) (by omega) (by omega) (Or.inl ⟨rfl, by omega, rfl, hg9⟩) hP hD hS d_LA_at_16

set_option maxRecDepth 100000 in
theorem tw_578 : (Jvm.Cond.codeWith ({ cls := "CharMachineLaw", name := "isMarked", desc := "(LCharMachine;I[J)I" } : Jvm.MethodName) method_7_code (4 : Nat) (Option.some Jvm.ClassFile.FieldType.int) [((0 : Nat), (16 : Nat), (19 : Nat), (28 : Nat))]) ∈ BIG := List.mem_filter.mpr ⟨List.mem_of_getElem? (i := 632) rfl, rfl⟩
theorem kh_LA_isMarked : okH y_LA_isMarked b_LA_isMarked 4 (some .int) [(0, 16, 19, 28)] 3 := ⟨tw_578, tw_577, tw_0, by decide +kernel, by decide +kernel, by decide +kernel⟩
set_option maxHeartbeats 4000000 in
set_option maxRecDepth 100000 in
theorem c_LA_isMarked (l : Launch) (D : va_G) (T : Nat → ClassId) (sz : Nat) (q : Nat → Nat) (n : Nat) (hn : 400 ≤ n ∧ n ≤ 2000) (d : Int → Int) (x : SX) (hX : okX x) (hlt : l.stackTraces = false) (o : Nat) (g : Nat → Int64) (z : Int) (hz : -2147483648 ≤ z ∧ z < 2147483648) : MH l y_LA_isMarked (wH y_LA_isMarked b_LA_isMarked 4 (some .int) [(0, 16, 19, 28)]) (rmX 7) D vwCl (tyL T) nwL sz [.ref (q 0), .int (iI (z)), .ref (o)] ((o, .inl (T 3, 1, .inr (.inl g))) :: (cmW T q n d (x 0) (x 1) (x 2) (x 3) (x 4) (x 11 0) (x 12 0) (x 13 0) (x 14 0) (x 15 0) (x 16 0) (x 17 0) (x 18 0) (x 19 0) (x 20 0) (x 21 0) (x 22 0))) (fun r (u : SX × (Int → Int) × (Nat → Int64)) => (r = iI 0 ∧ (0 ≤ z ∧ z < n) ∧ u.1 = x ∧ u.2.2 0 = (iI (x 1 z)).toInt64) ∨ (r = iI 1 ∧ ¬ (0 ≤ z ∧ z < n) ∧ u.1 = x)) (fun (u : SX × (Int → Int) × (Nat → Int64)) => (o, .inl (T 3, 1, .inr (.inl u.2.2))) :: cmX T q n u.2.1 u.1) := by
  refine cx_inH (by decide) rfl (Nat.le_of_ble_eq_true rfl) ?_
  intro p e s m below meth cd ls A Q hx hb hml hT hown htab hZ hret hP hK hD hN hS hA hl
  have hown : s.vm.findClass R_LA = some m.cls := hown
  have hl : lv_has ls 4 [(0, .ref (q 0)), (1, .int (iI (z))), (2, .ref (o))] := hl
  have hC := hX.1
  have hR0 := hX.2.1
  have hF := hX.2.2
  unfold okR at hR0
  refine lv_aload_n hx hb d_LA_isMarked_0 rfl (lv_at hl 2 rfl) ?_
  refine cx_iconst hx hb d_LA_isMarked_1 ?_
  refine lv_aload_n hx hb d_LA_isMarked_2 rfl (lv_at hl 0 rfl) ?_
  refine lv_iload_n hx hb d_LA_isMarked_3 rfl (lv_at hl 1 rfl) ?_
  refine cx_cXI (ws2 := fun (_ : Unit) => (o, .inl (T 3, 1, .inr (.inl g))) :: (cmW T q n d (x 0) (x 1) (x 2) (x 3) (x 4) (x 11 0) (x 12 0) (x 13 0) (x 14 0) (x 15 0) (x 16 0) (x 17 0) (x 18 0) (x 19 0) (x 20 0) (x 21 0) (x 22 0))) (cx_rVX (q0 := 1) (ci := 4) (rest := [.int (iI (0)), .ref (o)]) (As := [.int (iI (z))]) hx hb hml hown hT hK hN hP hD hS hA hZ.1 hl.1 tw_579 k_CM_isMarked (c_CM_isMarked l D T s.heap.size q n hn d x hX hlt z hz) ⟨by decide, by decide⟩ ⟨rfl, rfl⟩ [1, 2, 3, 4, 5, 6, 7, 8, 9, 10, 11, 12] (by decide) rfl rfl rfl rfl rfl (Nat.le_of_ble_eq_true rfl) ⟨by decide, by decide⟩ d_LA_isMarked_4) hP hD hS hA [1, 2, 3, 4, 5, 6, 7, 8, 9, 10, 11, 12] [0] [0, 1, 2, 3, 4, 5, 6, 7, 8, 9, 10, 11, 12] rfl (wr := [(o, .inl (T 3, 1, .inr (.inl g)))]) rfl (by decide) (by decide) (fun _ => rfl) rfl (by decide) ?_ ?_
  · intro E9 ce9 q9 H locs hth hP hD hS hc9 hv9 hf9
    obtain ⟨rfl, hth⟩ := hth
    refine vx_catch (own := R_LA) (name := xIO) hown [] ⟨0, 16, 19, 28⟩ [] htab (fun _ h9 => absurd h9 List.not_mem_nil) (by decide) (by decide) (hT _ tw_555) (va_Nw.use rfl (hZ.1.2.2 (Cond.castable xIO xIO) (by decide))) hc9 hv9 hf9 ?_
    refine lv_astore_n (lv' := [(3, .ref (q9)), (0, .ref (q 0)), (1, .int (iI (z))), (2, .ref (o))]) hx hb d_LA_isMarked_19 rfl hl (by decide) rfl (fun ls hl => ?_)
    refine cx_iconst hx hb d_LA_isMarked_20 ?_
    exact hret ((x, d, g) : SX × (Int → Int) × (Nat → Int64)) (by omega) (by omega) (Or.inr ⟨rfl, by omega, rfl⟩) hP hD hS d_LA_isMarked_21
  · intro r9 u_ H locs hq9 hP hD hS
    obtain ⟨rfl, hc8⟩ := hq9
    have hm9 := hX.1.2 z
    rcases hm9 with hm9 | hm9
    · refine cx_eq (y := iI 0) (by rw [hm9]) ?_
      refine cx_if_eq (tgt := 14) hx hb d_LA_isMarked_7 rfl (by omega) (fun _ => ?_) (fun h0 => absurd h0 (by decide))
      refine lv_lconst (v := 0) hx hb d_LA_isMarked_14 rfl ?_
      refine cx_last hx hb hK hP hD hS 0 rfl d_LA_isMarked_15 (fun g9 H locs hg9 hP hD hS => ?_)
      have hP : va_P D vwCl ((o, .inl (T 3, 1, .inr (.inl g9))) :: (cmW T q n d (x 0) (x 1) (x 2) (x 3) (x 4) (x 11 0) (x 12 0) (x 13 0) (x 14 0) (x 15 0) (x 16 0) (x 17 0) (x 18 0) (x 19 0) (x 20 0) (x 21 0) (x 22 0))) H := hP
      have hD : va_D A ((o, .inl (T 3, 1, .inr (.inl g9))) :: (cmW T q n d (x 0) (x 1) (x 2) (x 3) (x 4) (x 11 0) (x 12 0) (x 13 0) (x 14 0) (x 15 0) (x 16 0) (x 17 0) (x 18 0) (x 19 0) (x 20 0) (x 21 0) (x 22 0))) := hD
      refine lv_goto (tgt := 22) hx hb d_LA_isMarked_16 rfl ?_
      refine cx_iconst hx hb d_LA_isMarked_22 ?_
      exact hret ((x, d, g9) : SX × (Int → Int) × (Nat → Int64)) (by omega) (by omega) (Or.inl ⟨rfl, by omega, rfl, by show g9 0 = _; rw [hg9, hm9]; first | done | rfl⟩) hP hD hS d_LA_isMarked_23
    · refine cx_eq (y := iI 1) (by rw [hm9]) ?_
      refine cx_if_eq (tgt := 14) hx hb d_LA_isMarked_7 rfl (by omega) (fun h0 => absurd h0 (by decide)) (fun _ => ?_)
      refine lv_lconst (v := 1) hx hb d_LA_isMarked_10 rfl ?_
      refine lv_goto (tgt := 15) hx hb d_LA_isMarked_11 rfl ?_
      refine cx_last hx hb hK hP hD hS 0 rfl d_LA_isMarked_15 (fun g9 H locs hg9 hP hD hS => ?_)
      have hP : va_P D vwCl ((o, .inl (T 3, 1, .inr (.inl g9))) :: (cmW T q n d (x 0) (x 1) (x 2) (x 3) (x 4) (x 11 0) (x 12 0) (x 13 0) (x 14 0) (x 15 0) (x 16 0) (x 17 0) (x 18 0) (x 19 0) (x 20 0) (x 21 0) (x 22 0))) H := hP
      have hD : va_D A ((o, .inl (T 3, 1, .inr (.inl g9))) :: (cmW T q n d (x 0) (x 1) (x 2) (x 3) (x 4) (x 11 0) (x 12 0) (x 13 0) (x 14 0) (x 15 0) (x 16 0) (x 17 0) (x 18 0) (x 19 0) (x 20 0) (x 21 0) (x 22 0))) := hD
      refine lv_goto (tgt := 22) hx hb d_LA_isMarked_16 rfl ?_
      refine cx_iconst hx hb d_LA_isMarked_22 ?_
      exact hret ((x, d, g9) : SX × (Int → Int) × (Nat → Int64)) (by omega) (by omega) (Or.inl ⟨rfl, by omega, rfl, by show g9 0 = _; rw [hg9, hm9]; first | done | rfl⟩) hP hD hS d_LA_isMarked_23

set_option maxRecDepth 100000 in
theorem tw_586 : (Jvm.Cond.codeWith ({ cls := "CharMachineLaw", name := "printed", desc := "(LCharMachine;II[J)I" } : Jvm.MethodName) method_8_code (5 : Nat) (Option.some Jvm.ClassFile.FieldType.int) [((0 : Nat), (10 : Nat), (13 : Nat), (28 : Nat))]) ∈ BIG := List.mem_filter.mpr ⟨List.mem_of_getElem? (i := 640) rfl, rfl⟩
theorem kh_LA_printed : okH y_LA_printed b_LA_printed 5 (some .int) [(0, 10, 13, 28)] 4 := ⟨tw_586, tw_585, tw_0, by decide +kernel, by decide +kernel, by decide +kernel⟩
set_option maxHeartbeats 4000000 in
set_option maxRecDepth 100000 in
theorem c_LA_printed (l : Launch) (D : va_G) (T : Nat → ClassId) (sz : Nat) (q : Nat → Nat) (n : Nat) (hn : 400 ≤ n ∧ n ≤ 2000) (d : Int → Int) (x : SX) (hX : okX x) (hlt : l.stackTraces = false) (o : Nat) (g : Nat → Int64) (z k : Int) (hz : -2147483648 ≤ z ∧ z < 2147483648) (hk : -2147483648 ≤ k ∧ k < 2147483648) : MH l y_LA_printed (wH y_LA_printed b_LA_printed 5 (some .int) [(0, 10, 13, 28)]) (rmX 7) D vwCl (tyL T) nwL sz [.ref (q 0), .int (iI (z)), .int (iI (k)), .ref (o)] ((o, .inl (T 3, 1, .inr (.inl g))) :: (cmW T q n d (x 0) (x 1) (x 2) (x 3) (x 4) (x 11 0) (x 12 0) (x 13 0) (x 14 0) (x 15 0) (x 16 0) (x 17 0) (x 18 0) (x 19 0) (x 20 0) (x 21 0) (x 22 0))) (fun r (u : SX × (Int → Int) × (Nat → Int64)) => (r = iI 0 ∧ ((0 ≤ z ∧ z < x 19 0) ∧ (1 ≤ k ∧ k ≤ 132)) ∧ u.1 = x ∧ u.2.2 0 = (iI (x 3 (z * 132 + k - 1))).toInt64) ∨ (r = iI 1 ∧ ¬ ((0 ≤ z ∧ z < x 19 0) ∧ (1 ≤ k ∧ k ≤ 132)) ∧ u.1 = x)) (fun (u : SX × (Int → Int) × (Nat → Int64)) => (o, .inl (T 3, 1, .inr (.inl u.2.2))) :: cmX T q n u.2.1 u.1) := by
  refine cx_inH (by decide) rfl (Nat.le_of_ble_eq_true rfl) ?_
  intro p e s m below meth cd ls A Q hx hb hml hT hown htab hZ hret hP hK hD hN hS hA hl
  have hown : s.vm.findClass R_LA = some m.cls := hown
  have hl : lv_has ls 5 [(0, .ref (q 0)), (1, .int (iI (z))), (2, .int (iI (k))), (3, .ref (o))] := hl
  have hC := hX.1
  have hR0 := hX.2.1
  have hF := hX.2.2
  unfold okR at hR0
  refine lv_aload_n hx hb d_LA_printed_0 rfl (lv_at hl 3 rfl) ?_
  refine cx_iconst hx hb d_LA_printed_1 ?_
  refine lv_aload_n hx hb d_LA_printed_2 rfl (lv_at hl 0 rfl) ?_
  refine lv_iload_n hx hb d_LA_printed_3 rfl (lv_at hl 1 rfl) ?_
  refine lv_iload_n hx hb d_LA_printed_4 rfl (lv_at hl 2 rfl) ?_
  refine cx_cXI (ws2 := fun (_ : Unit) => (o, .inl (T 3, 1, .inr (.inl g))) :: (cmW T q n d (x 0) (x 1) (x 2) (x 3) (x 4) (x 11 0) (x 12 0) (x 13 0) (x 14 0) (x 15 0) (x 16 0) (x 17 0) (x 18 0) (x 19 0) (x 20 0) (x 21 0) (x 22 0))) (cx_rVX (q0 := 1) (ci := 4) (rest := [.int (iI (0)), .ref (o)]) (As := [.int (iI (z)), .int (iI (k))]) hx hb hml hown hT hK hN hP hD hS hA hZ.1 hl.1 tw_587 k_CM_printed (c_CM_printed l D T s.heap.size q n hn d x hX hlt z k hz hk) ⟨by decide, by decide⟩ ⟨rfl, rfl⟩ [1, 2, 3, 4, 5, 6, 7, 8, 9, 10, 11, 12] (by decide) rfl rfl rfl rfl rfl (Nat.le_of_ble_eq_true rfl) ⟨by decide, by decide⟩ d_LA_printed_5) hP hD hS hA [1, 2, 3, 4, 5, 6, 7, 8, 9, 10, 11, 12] [0] [0, 1, 2, 3, 4, 5, 6, 7, 8, 9, 10, 11, 12] rfl (wr := [(o, .inl (T 3, 1, .inr (.inl g)))]) rfl (by decide) (by decide) (fun _ => rfl) rfl (by decide) ?_ ?_
  · intro E9 ce9 q9 H locs hth hP hD hS hc9 hv9 hf9
    obtain ⟨rfl, hth⟩ := hth
    refine vx_catch (own := R_LA) (name := xIO) hown [] ⟨0, 10, 13, 28⟩ [] htab (fun _ h9 => absurd h9 List.not_mem_nil) (by decide) (by decide) (hT _ tw_555) (va_Nw.use rfl (hZ.1.2.2 (Cond.castable xIO xIO) (by decide))) hc9 hv9 hf9 ?_
    refine lv_astore (lv' := [(4, .ref (q9)), (0, .ref (q 0)), (1, .int (iI (z))), (2, .int (iI (k))), (3, .ref (o))]) hx hb d_LA_printed_13 hl (by decide) rfl (fun ls hl => ?_)
    refine cx_iconst hx hb d_LA_printed_15 ?_
    exact hret ((x, d, g) : SX × (Int → Int) × (Nat → Int64)) (by omega) (by omega) (Or.inr ⟨rfl, by omega, rfl⟩) hP hD hS d_LA_printed_16
  · intro r9 u_ H locs hq9 hP hD hS
    obtain ⟨rfl, hc8⟩ := hq9
    refine lv_i2l (v := (iI (x 3 (z * 132 + k - 1))).toInt64) hx hb d_LA_printed_8 rfl ?_
    refine cx_last hx hb hK hP hD hS 0 rfl d_LA_printed_9 (fun g9 H locs hg9 hP hD hS => ?_)
    have hP : va_P D vwCl ((o, .inl (T 3, 1, .inr (.inl g9))) :: (cmW T q n d (x 0) (x 1) (x 2) (x 3) (x 4) (x 11 0) (x 12 0) (x 13 0) (x 14 0) (x 15 0) (x 16 0) (x 17 0) (x 18 0) (x 19 0) (x 20 0) (x 21 0) (x 22 0))) H := hP
    have hD : va_D A ((o, .inl (T 3, 1, .inr (.inl g9))) :: (cmW T q n d (x 0) (x 1) (x 2) (x 3) (x 4) (x 11 0) (x 12 0) (x 13 0) (x 14 0) (x 15 0) (x 16 0) (x 17 0) (x 18 0) (x 19 0) (x 20 0) (x 21 0) (x 22 0))) := hD
    refine lv_goto (tgt := 17) hx hb d_LA_printed_10 rfl ?_
    refine cx_iconst hx hb d_LA_printed_17 ?_
    exact hret ((x, d, g9) : SX × (Int → Int) × (Nat → Int64)) (by omega) (by omega) (Or.inl ⟨rfl, by omega, rfl, hg9⟩) hP hD hS d_LA_printed_18

set_option maxRecDepth 100000 in
theorem tw_598 : (Jvm.Cond.codeWith ({ cls := "CharMachineLaw", name := "punched", desc := "(LCharMachine;II[J)I" } : Jvm.MethodName) method_9_code (5 : Nat) (Option.some Jvm.ClassFile.FieldType.int) [((0 : Nat), (10 : Nat), (13 : Nat), (28 : Nat))]) ∈ BIG := List.mem_filter.mpr ⟨List.mem_of_getElem? (i := 652) rfl, rfl⟩
theorem kh_LA_punched : okH y_LA_punched b_LA_punched 5 (some .int) [(0, 10, 13, 28)] 4 := ⟨tw_598, tw_597, tw_0, by decide +kernel, by decide +kernel, by decide +kernel⟩
set_option maxHeartbeats 4000000 in
set_option maxRecDepth 100000 in
theorem c_LA_punched (l : Launch) (D : va_G) (T : Nat → ClassId) (sz : Nat) (q : Nat → Nat) (n : Nat) (hn : 400 ≤ n ∧ n ≤ 2000) (d : Int → Int) (x : SX) (hX : okX x) (hlt : l.stackTraces = false) (o : Nat) (g : Nat → Int64) (z k : Int) (hz : -2147483648 ≤ z ∧ z < 2147483648) (hk : -2147483648 ≤ k ∧ k < 2147483648) : MH l y_LA_punched (wH y_LA_punched b_LA_punched 5 (some .int) [(0, 10, 13, 28)]) (rmX 7) D vwCl (tyL T) nwL sz [.ref (q 0), .int (iI (z)), .int (iI (k)), .ref (o)] ((o, .inl (T 3, 1, .inr (.inl g))) :: (cmW T q n d (x 0) (x 1) (x 2) (x 3) (x 4) (x 11 0) (x 12 0) (x 13 0) (x 14 0) (x 15 0) (x 16 0) (x 17 0) (x 18 0) (x 19 0) (x 20 0) (x 21 0) (x 22 0))) (fun r (u : SX × (Int → Int) × (Nat → Int64)) => (r = iI 0 ∧ ((0 ≤ z ∧ z < x 20 0) ∧ (1 ≤ k ∧ k ≤ 80)) ∧ u.1 = x ∧ u.2.2 0 = (iI (x 4 (z * 80 + k - 1))).toInt64) ∨ (r = iI 1 ∧ ¬ ((0 ≤ z ∧ z < x 20 0) ∧ (1 ≤ k ∧ k ≤ 80)) ∧ u.1 = x)) (fun (u : SX × (Int → Int) × (Nat → Int64)) => (o, .inl (T 3, 1, .inr (.inl u.2.2))) :: cmX T q n u.2.1 u.1) := by
  refine cx_inH (by decide) rfl (Nat.le_of_ble_eq_true rfl) ?_
  intro p e s m below meth cd ls A Q hx hb hml hT hown htab hZ hret hP hK hD hN hS hA hl
  have hown : s.vm.findClass R_LA = some m.cls := hown
  have hl : lv_has ls 5 [(0, .ref (q 0)), (1, .int (iI (z))), (2, .int (iI (k))), (3, .ref (o))] := hl
  have hC := hX.1
  have hR0 := hX.2.1
  have hF := hX.2.2
  unfold okR at hR0
  refine lv_aload_n hx hb d_LA_punched_0 rfl (lv_at hl 3 rfl) ?_
  refine cx_iconst hx hb d_LA_punched_1 ?_
  refine lv_aload_n hx hb d_LA_punched_2 rfl (lv_at hl 0 rfl) ?_
  refine lv_iload_n hx hb d_LA_punched_3 rfl (lv_at hl 1 rfl) ?_
  refine lv_iload_n hx hb d_LA_punched_4 rfl (lv_at hl 2 rfl) ?_
  refine cx_cXI (ws2 := fun (_ : Unit) => (o, .inl (T 3, 1, .inr (.inl g))) :: (cmW T q n d (x 0) (x 1) (x 2) (x 3) (x 4) (x 11 0) (x 12 0) (x 13 0) (x 14 0) (x 15 0) (x 16 0) (x 17 0) (x 18 0) (x 19 0) (x 20 0) (x 21 0) (x 22 0))) (cx_rVX (q0 := 1) (ci := 4) (rest := [.int (iI (0)), .ref (o)]) (As := [.int (iI (z)), .int (iI (k))]) hx hb hml hown hT hK hN hP hD hS hA hZ.1 hl.1 tw_599 k_CM_punched (c_CM_punched l D T s.heap.size q n hn d x hX hlt z k hz hk) ⟨by decide, by decide⟩ ⟨rfl, rfl⟩ [1, 2, 3, 4, 5, 6, 7, 8, 9, 10, 11, 12] (by decide) rfl rfl rfl rfl rfl (Nat.le_of_ble_eq_true rfl) ⟨by decide, by decide⟩ d_LA_punched_5) hP hD hS hA [1, 2, 3, 4, 5, 6, 7, 8, 9, 10, 11, 12] [0] [0, 1, 2, 3, 4, 5, 6, 7, 8, 9, 10, 11, 12] rfl (wr := [(o, .inl (T 3, 1, .inr (.inl g)))]) rfl (by decide) (by decide) (fun _ => rfl) rfl (by decide) ?_ ?_
  · intro E9 ce9 q9 H locs hth hP hD hS hc9 hv9 hf9
    obtain ⟨rfl, hth⟩ := hth
    refine vx_catch (own := R_LA) (name := xIO) hown [] ⟨0, 10, 13, 28⟩ [] htab (fun _ h9 => absurd h9 List.not_mem_nil) (by decide) (by decide) (hT _ tw_555) (va_Nw.use rfl (hZ.1.2.2 (Cond.castable xIO xIO) (by decide))) hc9 hv9 hf9 ?_
    refine lv_astore (lv' := [(4, .ref (q9)), (0, .ref (q 0)), (1, .int (iI (z))), (2, .int (iI (k))), (3, .ref (o))]) hx hb d_LA_punched_13 hl (by decide) rfl (fun ls hl => ?_)
    refine cx_iconst hx hb d_LA_punched_15 ?_
    exact hret ((x, d, g) : SX × (Int → Int) × (Nat → Int64)) (by omega) (by omega) (Or.inr ⟨rfl, by omega, rfl⟩) hP hD hS d_LA_punched_16
  · intro r9 u_ H locs hq9 hP hD hS
    obtain ⟨rfl, hc8⟩ := hq9
    refine lv_i2l (v := (iI (x 4 (z * 80 + k - 1))).toInt64) hx hb d_LA_punched_8 rfl ?_
    refine cx_last hx hb hK hP hD hS 0 rfl d_LA_punched_9 (fun g9 H locs hg9 hP hD hS => ?_)
    have hP : va_P D vwCl ((o, .inl (T 3, 1, .inr (.inl g9))) :: (cmW T q n d (x 0) (x 1) (x 2) (x 3) (x 4) (x 11 0) (x 12 0) (x 13 0) (x 14 0) (x 15 0) (x 16 0) (x 17 0) (x 18 0) (x 19 0) (x 20 0) (x 21 0) (x 22 0))) H := hP
    have hD : va_D A ((o, .inl (T 3, 1, .inr (.inl g9))) :: (cmW T q n d (x 0) (x 1) (x 2) (x 3) (x 4) (x 11 0) (x 12 0) (x 13 0) (x 14 0) (x 15 0) (x 16 0) (x 17 0) (x 18 0) (x 19 0) (x 20 0) (x 21 0) (x 22 0))) := hD
    refine lv_goto (tgt := 17) hx hb d_LA_punched_10 rfl ?_
    refine cx_iconst hx hb d_LA_punched_17 ?_
    exact hret ((x, d, g9) : SX × (Int → Int) × (Nat → Int64)) (by omega) (by omega) (Or.inl ⟨rfl, by omega, rfl, hg9⟩) hP hD hS d_LA_punched_18

set_option maxRecDepth 100000 in
theorem tw_605 : (Jvm.Cond.codeWith ({ cls := "CharMachineLaw", name := "number", desc := "(LCharMachine;I[J)I" } : Jvm.MethodName) method_10_code (4 : Nat) (Option.some Jvm.ClassFile.FieldType.int) [((0 : Nat), (8 : Nat), (11 : Nat), (28 : Nat)), ((0 : Nat), (8 : Nat), (14 : Nat), (45 : Nat))]) ∈ BIG := List.mem_filter.mpr ⟨List.mem_of_getElem? (i := 659) rfl, rfl⟩
theorem kh_LA_number : okH y_LA_number b_LA_number 4 (some .int) [(0, 8, 11, 28), (0, 8, 14, 45)] 3 := ⟨tw_605, tw_604, tw_0, by decide +kernel, by decide +kernel, by decide +kernel⟩
set_option maxHeartbeats 4000000 in
set_option maxRecDepth 100000 in
theorem c_LA_number (l : Launch) (D : va_G) (T : Nat → ClassId) (sz : Nat) (q : Nat → Nat) (n : Nat) (hn : 400 ≤ n ∧ n ≤ 2000) (d : Int → Int) (x : SX) (hX : okX x) (hlt : l.stackTraces = false) (o : Nat) (g : Nat → Int64) (z : Int) (hz : -2147483648 ≤ z ∧ z < 2147483648) : MH l y_LA_number (wH y_LA_number b_LA_number 4 (some .int) [(0, 8, 11, 28), (0, 8, 14, 45)]) (rmX 7) D vwCl (tyL T) nwL sz [.ref (q 0), .int (iI (z)), .ref (o)] ((o, .inl (T 3, 1, .inr (.inl g))) :: (cmW T q n d (x 0) (x 1) (x 2) (x 3) (x 4) (x 11 0) (x 12 0) (x 13 0) (x 14 0) (x 15 0) (x 16 0) (x 17 0) (x 18 0) (x 19 0) (x 20 0) (x 21 0) (x 22 0))) (fun r (u : SX × (Int → Int) × (Nat → Int64)) => (r = iI 0 ∧ nmT n z x = 0 ∧ u.1 = x ∧ u.2.2 0 = nmV n z x) ∨ (r = iI 1 ∧ nmT n z x = 1 ∧ u.1 = x) ∨ (r = iI 2 ∧ nmT n z x = 2 ∧ u.1 = x)) (fun (u : SX × (Int → Int) × (Nat → Int64)) => (o, .inl (T 3, 1, .inr (.inl u.2.2))) :: cmX T q n u.2.1 u.1) := by
  refine cx_inH (by decide) rfl (Nat.le_of_ble_eq_true rfl) ?_
  intro p e s m below meth cd ls A Q hx hb hml hT hown htab hZ hret hP hK hD hN hS hA hl
  have hown : s.vm.findClass R_LA = some m.cls := hown
  have hl : lv_has ls 4 [(0, .ref (q 0)), (1, .int (iI (z))), (2, .ref (o))] := hl
  have hC := hX.1
  have hR0 := hX.2.1
  have hF := hX.2.2
  unfold okR at hR0
  refine lv_aload_n hx hb d_LA_number_0 rfl (lv_at hl 2 rfl) ?_
  refine cx_iconst hx hb d_LA_number_1 ?_
  refine lv_aload_n hx hb d_LA_number_2 rfl (lv_at hl 0 rfl) ?_
  refine lv_iload_n hx hb d_LA_number_3 rfl (lv_at hl 1 rfl) ?_
  refine cx_cXL (ws2 := fun (_ : Unit) => (o, .inl (T 3, 1, .inr (.inl g))) :: (cmW T q n d (x 0) (x 1) (x 2) (x 3) (x 4) (x 11 0) (x 12 0) (x 13 0) (x 14 0) (x 15 0) (x 16 0) (x 17 0) (x 18 0) (x 19 0) (x 20 0) (x 21 0) (x 22 0))) (cx_rVX (q0 := 1) (ci := 4) (rest := [.int (iI (0)), .ref (o)]) (As := [.int (iI (z))]) hx hb hml hown hT hK hN hP hD hS hA hZ.1 hl.1 tw_607 k_CM_number (c_CM_number l D T s.heap.size q n hn d x hX hlt z hz) ⟨by decide, by decide⟩ ⟨rfl, rfl⟩ [1, 2, 3, 4, 5, 6, 7, 8, 9, 10, 11, 12] (by decide) rfl rfl rfl rfl rfl (Nat.le_of_ble_eq_true rfl) ⟨by decide, by decide⟩ d_LA_number_4) hP hD hS hA [1, 2, 3, 4, 5, 6, 7, 8, 9, 10, 11, 12] [0] [0, 1, 2, 3, 4, 5, 6, 7, 8, 9, 10, 11, 12] rfl (wr := [(o, .inl (T 3, 1, .inr (.inl g)))]) rfl (by decide) (by decide) (fun _ => rfl) rfl (by decide) ?_ ?_
  · intro E9 ce9 q9 H locs hth hP hD hS hc9 hv9 hf9
    rcases hth with ⟨rfl, hth⟩ | ⟨rfl, hth⟩
    · refine vx_catch (own := R_LA) (name := xIO) hown [] ⟨0, 8, 11, 28⟩ [⟨0, 8, 14, 45⟩] htab (fun _ h9 => absurd h9 List.not_mem_nil) (by decide) (by decide) (hT _ tw_555) (va_Nw.use rfl (hZ.1.2.2 (Cond.castable xIO xIO) (by decide))) hc9 hv9 hf9 ?_
      refine lv_astore_n (lv' := [(3, .ref (q9)), (0, .ref (q 0)), (1, .int (iI (z))), (2, .ref (o))]) hx hb d_LA_number_11 rfl hl (by decide) rfl (fun ls hl => ?_)
      refine cx_iconst hx hb d_LA_number_12 ?_
      exact hret ((x, d, g) : SX × (Int → Int) × (Nat → Int64)) (by omega) (by omega) (Or.inr (Or.inl ⟨rfl, hth, rfl⟩)) hP hD hS d_LA_number_13
    · refine vx_catch (own := R_LA) (name := xUO) hown [⟨0, 8, 11, 28⟩] ⟨0, 8, 14, 45⟩ [] htab (fun z9 h9 => by rcases List.mem_cons.mp h9 with rfl | h9; exact Or.inr ⟨by decide, xIO, hT _ tw_555, hZ.2⟩; exact absurd h9 List.not_mem_nil) (by decide) (by decide) (hT _ tw_606) (va_Nw.use rfl (hZ.1.2.2 (Cond.castable xUO xUO) (by decide))) hc9 hv9 hf9 ?_
      refine lv_astore_n (lv' := [(3, .ref (q9)), (0, .ref (q 0)), (1, .int (iI (z))), (2, .ref (o))]) hx hb d_LA_number_14 rfl hl (by decide) rfl (fun ls hl => ?_)
      refine cx_iconst hx hb d_LA_number_15 ?_
      exact hret ((x, d, g) : SX × (Int → Int) × (Nat → Int64)) (by omega) (by omega) (Or.inr (Or.inr ⟨rfl, hth, rfl⟩)) hP hD hS d_LA_number_16
  · intro r9 u_ H locs hq9 hP hD hS
    obtain ⟨rfl, hc8⟩ := hq9
    refine cx_last hx hb hK hP hD hS 0 rfl d_LA_number_7 (fun g9 H locs hg9 hP hD hS => ?_)
    have hP : va_P D vwCl ((o, .inl (T 3, 1, .inr (.inl g9))) :: (cmW T q n d (x 0) (x 1) (x 2) (x 3) (x 4) (x 11 0) (x 12 0) (x 13 0) (x 14 0) (x 15 0) (x 16 0) (x 17 0) (x 18 0) (x 19 0) (x 20 0) (x 21 0) (x 22 0))) H := hP
    have hD : va_D A ((o, .inl (T 3, 1, .inr (.inl g9))) :: (cmW T q n d (x 0) (x 1) (x 2) (x 3) (x 4) (x 11 0) (x 12 0) (x 13 0) (x 14 0) (x 15 0) (x 16 0) (x 17 0) (x 18 0) (x 19 0) (x 20 0) (x 21 0) (x 22 0))) := hD
    refine lv_goto (tgt := 17) hx hb d_LA_number_8 rfl ?_
    refine cx_iconst hx hb d_LA_number_17 ?_
    exact hret ((x, d, g9) : SX × (Int → Int) × (Nat → Int64)) (by omega) (by omega) (Or.inl ⟨rfl, hc8, rfl, hg9⟩) hP hD hS d_LA_number_18
