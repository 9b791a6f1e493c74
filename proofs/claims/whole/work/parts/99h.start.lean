/-! the law, from its entry -/
theorem arr_K {s : State} {args : Array Value} {ty : FieldType} (h : (Cond.arrayClass ty).before args s = true) : ∃ cA : ClassId, s.vm.findClass ("[" ++ ty.toString) = some cA ∧ ArrOfT s cA ty := by
  obtain ⟨cA, kA, comp, h1, h2, h3⟩ := Cond.arrayClass_spec h
  exact ⟨cA, h1, fun n z => ⟨fun k h => (by cases h), kA, h2, comp, h3⟩⟩
theorem xB_in : ∀ w ∈ xB, w ∈ lw_tbl := by decide +kernel
set_option maxHeartbeats 4000000 in
set_option maxRecDepth 100000 in
theorem whole_start {p : Program} {e : Env} {s : State} {m : MethodId} {below : List Frame} {meth : Method} {c : Code} (l : Launch) (hlt : l.stackTraces = false) {b L : Nat} {xs : Nat → Int32} (hL : L ≤ 2561) (C0 : lw_At p s m meth c b L xs) : W p l e room_1 s m #[Value.ref b] below meth c s.heap [] 0 0 (lw_Z below #[Value.ref b] s) (entryFrame m ([Value.ref b] : List Value).toArray 8) := by
  obtain ⟨hx, hb, hr, hml, hown, hts, hXs, hbl, hlocks, hgv⟩ := C0
  have hs := flat_of_before _ hgv
  have hT : ∀ w ∈ BIG, w.before #[Value.ref b] s = true := fun w h => hts w (List.mem_filter.mp h).1
  have hN : cx_N nwL s := fun w h => va_Nw.of (cx_isN_on (List.all_eq_true.mp nwL_ok w h)) (hts w (nwL_in w h))
  obtain ⟨c0, i0, h0⟩ := u_known hT lays_AR (hT _ tw_62)
  obtain ⟨c1, i1, h1⟩ := u_known hT lays_PI (hT _ tw_37)
  obtain ⟨c2, i2, h2⟩ := u_known hT lays_PR (hT _ tw_56)
  obtain ⟨c3, i3, h3⟩ := u_known hT lays_ST (hT _ tw_26)
  obtain ⟨c4, i4, h4⟩ := u_known hT lays_CM (hT _ tw_18)
  obtain ⟨c5, i5, h5⟩ := u_known hT lays_MO (hT _ tw_631)
  obtain ⟨t0, g0, k0⟩ := arr_K (hT _ tw_35)
  obtain ⟨t1, g1, k1⟩ := arr_K (hT _ tw_721)
  obtain ⟨t2, g2, k2⟩ := arr_K (hT _ tw_722)
  obtain ⟨t3, g3, k3⟩ := arr_K (hT _ tw_920)
  obtain ⟨T, hT0, hT1, hT2, hT3⟩ : ∃ T : Nat → ClassId, T 0 = t0 ∧ T 1 = t1 ∧ T 2 = t2 ∧ T 3 = t3 := ⟨fun k => match k with | 0 => t0 | 1 => t1 | 2 => t2 | _ => t3, rfl, rfl, rfl, rfl⟩
  subst hT0; subst hT1; subst hT2; subst hT3
  obtain ⟨D, e0, e1, e2, e3, e4, e5, f0, f1, f2, f3, f4, f5⟩ : ∃ D : va_G, D.1 0 = c0 ∧ D.1 1 = c1 ∧ D.1 2 = c2 ∧ D.1 3 = c3 ∧ D.1 4 = c4 ∧ D.1 5 = c5 ∧ D.2 0 = i0 ∧ D.2 1 = i1 ∧ D.2 2 = i2 ∧ D.2 3 = i3 ∧ D.2 4 = i4 ∧ D.2 5 = i5 := ⟨(fun k => match k with | 0 => c0 | 1 => c1 | 2 => c2 | 3 => c3 | 4 => c4 | _ => c5, fun k => match k with | 0 => i0 | 1 => i1 | 2 => i2 | 3 => i3 | 4 => i4 | _ => i5), rfl, rfl, rfl, rfl, rfl, rfl, rfl, rfl, rfl, rfl, rfl, rfl⟩
  subst e0; subst e1; subst e2; subst e3; subst e4; subst e5; subst f0; subst f1; subst f2; subst f3; subst f4; subst f5
  have hK : va_K D vwCl (tyL T) s := by
    constructor
    · intro k q hq
      match k, hq with
      | 0, h => cases h; exact h0
      | 1, h => cases h; exact h1
      | 2, h => cases h; exact h2
      | 3, h => cases h; exact h3
      | 4, h => cases h; exact h4
      | 5, h => cases h; exact h5
      | k + 6, h => cases h
    · intro k q hq
      match k, hq with
      | 0, h => cases h; exact ⟨k0, g0⟩
      | 1, h => cases h; exact ⟨k1, g1⟩
      | 2, h => cases h; exact ⟨k2, g2⟩
      | 3, h => cases h; exact ⟨k3, g3⟩
      | k + 4, h => cases h
  obtain ⟨A, hAe⟩ : ∃ A : Nat → Prop, A = fun q => s.heap.size ≤ q := ⟨_, rfl⟩
  have hA : ∀ q : Nat, s.heap.size ≤ q → A q := fun q h => by rw [hAe]; exact h
  have hA0 : ∀ q : Nat, A q → s.heap.size ≤ q := fun q h => by rw [hAe] at h; exact h
  have hbA : ¬ A b := fun h => by have h9 := hA0 b h; omega
  have hnA : ∀ a : Nat, a < s.heap.size → ¬ A a := fun a h h9 => by have h8 := hA0 a h9; omega
  have hZ : cx_Z A s := ⟨⟨vx_Zqof (hts (Cond.laysStatic Bundle.tN "UNASSIGNED_STACK" Bundle.steD) (by decide +kernel)) (hT _ tw_7) (hs (Cond.isRef (.static Bundle.tN "UNASSIGNED_STACK" Bundle.steD)) (by decide +kernel)) hnA, vx_Zqof (hts (Cond.laysStatic Bundle.tN "SUPPRESSED_SENTINEL" Bundle.listD) (by decide +kernel)) (hT _ tw_7) (hs (Cond.isRef (.static Bundle.tN "SUPPRESSED_SENTINEL" Bundle.listD)) (by decide +kernel)) hnA, fun w hw => va_Nw.of (xB_on w hw) (hts w (xB_in w hw))⟩, va_Nc.of (hs (Cond.not (.castable xUO xIO)) (by decide +kernel))⟩
  obtain ⟨v, hv⟩ : ∃ v : Int, v = if 0 < L then sv xs 0 else 0 := ⟨_, rfl⟩
  have hvb : -2147483648 ≤ v ∧ v < 2147483648 := by
    rw [hv]
    split
    · exact sv_in xs 0
    · omega
  obtain ⟨n, hnv⟩ : ∃ n : Nat, (n : Int) = if v < 400 ∨ 2000 < v then 1400 else v := ⟨(if v < 400 ∨ 2000 < v then 1400 else v).toNat, by split <;> omega⟩
  have hn : 400 ≤ n ∧ n ≤ 2000 := by split at hnv <;> omega
  have C1 : laC p l e s m meth c b L xs A D T n := ⟨hx, hb, hml, hT, hown, hK, hN, hZ, hA, hXs, hbl, hbA, hlt, by omega⟩
  have hl := lv_entry ([.ref b] : List Value) (n := 8) (Nat.le_of_ble_eq_true rfl)
  rw [lg_entry_eq]
  generalize (lg_sl ([.ref b] : List Value) ++ List.replicate (8 - (lg_sl ([.ref b] : List Value)).length) Slot.unset).toArray = ls at hl ⊢
  have hl : lv_has ls 8 [(0, .ref b)] := hl
  have hP : va_P D vwCl [] s.heap := nil_P
  have hD : va_D A [] := nil_D
  have hS : va_S A s.heap s.heap [] := va_S.rf
  refine va_new (ci := 4) (fs := [.null, .null, .null, .null, .null, .int (iI 0), .int (iI 0)]) (C := R_CM) (T := T_CM) (N := 7) hx hb hT lays_CM t_CM t_CM_ok hown (hT _ tw_17) (hT _ tw_18) (hT _ tw_1) hK hP hD hS hA rfl z_CM (by show _ ≤ (601024 : Nat); omega) (by show _ ≤ (7293000 : Nat); omega) d_LA_law_0 (fun a0 H hP hD hS => ?_)
  refine lv_dup hx hb d_LA_law_3 rfl ?_
  refine lv_aload_n hx hb d_LA_law_4 rfl (lv_at hl 0 rfl) ?_
  refine cx_iconst hx hb d_LA_law_5 ?_
  refine law_cell C1 hP hD hS hl.1 (Nat.le_of_ble_eq_true rfl) ⟨by show _ ≤ (601024 : Nat); omega, by show _ ≤ (7293000 : Nat); omega⟩ d_LA_law_6 (fun H locs hP hD hS => ?_)
  rw [← hv]
  refine cx_cN (ws2 := fun q : Nat → Nat => cmX T q n (cst 0) x00) (cx_rI (rest := [.ref a0]) (As := [.int (iI v)]) hx hb hml hown hT hK hN hP hD hl.1 tw_19 k_CM_init (c_CM_init l D T H.size a0 v hvb n hn hnv) ⟨Nat.le_of_ble_eq_true rfl, Nat.le_of_ble_eq_true rfl⟩ ⟨rfl, rfl⟩ [0] (by decide) rfl rfl rfl (Nat.le_of_ble_eq_true rfl) ⟨by show _ ≤ (601024 : Nat); omega, by show _ ≤ (7293000 : Nat); omega⟩ d_LA_law_9) hP hD hS hA [0] [] [0, 1, 2, 3, 4, 5, 6, 7, 8, 9, 10, 11] rfl (wr := []) rfl (by decide) (by decide) (fun _ => rfl) (by decide) (fun q H locs hq hP1 hD1 hS1 => ?_)
  have hq : q 0 = a0 := hq
  subst hq
  have hP := hP1
  have hD := hD1
  have hS := hS1
  refine lv_astore_n (lv' := [(1, .ref (q 0)), (0, .ref b)]) hx hb d_LA_law_12 rfl hl (by decide) rfl (fun ls hl => ?_)
  refine va_new (ci := 5) (fs := [.int (iI (0)), .int (iI (0)), .null, .null, .int (iI (0)), .int (iI (0)), .int (iI (0)), .int (iI (0)), .int (iI (0)), .int (iI (0)), .int (iI (0)), .int (iI (0)), .int (iI (0)), .int (iI (0)), .int (iI (0)), .int (iI (0)), .int (iI (0)), .null, .int (iI (0)), .int (iI (0)), .null, .int (iI (0)), .null, .int (iI (0)), .null, .null, .null, .null]) (C := R_MO) (T := T_MO) (N := 28) hx hb hT lays_MO t_MO t_MO_ok hown (hT _ tw_630) (hT _ tw_631) (hT _ tw_6) hK hP hD hS hA rfl z_MO (by show _ ≤ (601024 : Nat); omega) (by show _ ≤ (7293000 : Nat); omega) d_LA_law_13 (fun a20 H hP hD hS => ?_)
  refine lv_dup hx hb d_LA_law_16 rfl ?_
  refine lv_aload_n hx hb d_LA_law_17 rfl (lv_at hl 1 rfl) ?_
  refine cx_iconst hx hb d_LA_law_18 ?_
  refine law_cell C1 hP hD hS hl.1 (Nat.le_of_ble_eq_true rfl) ⟨by show _ ≤ (601024 : Nat); omega, by show _ ≤ (7293000 : Nat); omega⟩ d_LA_law_19 (fun H locs hP hD hS => ?_)
  rw [← hv]
  refine cx_cN (ws2 := fun qm : Nat → Nat => cmX T q n (cst 0) x00 ++ moX T qm n x00 x00) (cx_rI (rest := [.ref a20]) (As := [.int (iI v)]) hx hb hml hown hT hK hN hP hD hl.1 tw_632 k_MO_init (c_MO_init l D T H.size a20 v hvb n hn hnv) ⟨Nat.le_of_ble_eq_true rfl, Nat.le_of_ble_eq_true rfl⟩ ⟨rfl, rfl⟩ [12] (by decide) rfl rfl rfl (Nat.le_of_ble_eq_true rfl) ⟨by show _ ≤ (601024 : Nat); omega, by show _ ≤ (7293000 : Nat); omega⟩ d_LA_law_22) hP hD hS hA [12] [0, 1, 2, 3, 4, 5, 6, 7, 8, 9, 10, 11] [0, 1, 2, 3, 4, 5, 6, 7, 8, 9, 10, 11, 12, 13, 14, 15, 16, 17, 18, 19, 20, 21] rfl (wr := cmX T q n (cst 0) x00) rfl (by decide) (by decide) (fun _ => rfl) (by decide) (fun qm H locs hqm hP2 hD2 hS2 => ?_)
  have hqm : qm 20 = a20 := hqm
  subst hqm
  have hP := hP2
  have hD := hD2
  have hS := hS2
  refine lv_astore_n (lv' := [(2, .ref (qm 20)), (1, .ref (q 0)), (0, .ref b)]) hx hb d_LA_law_25 rfl hl (by decide) rfl (fun ls hl => ?_)
  refine cx_iconst hx hb d_LA_law_26 ?_
  refine cx_newl (z := 1) (N := 1) hx hb (hT _ tw_920) hK hP hD hS hA rfl (by omega) (by show _ ≤ (601024 : Nat); omega) (by show _ ≤ (7293000 : Nat); omega) d_LA_law_27 (fun o H hP hD hS => ?_)
  refine lv_astore_n (lv' := [(3, .ref o), (2, .ref (qm 20)), (1, .ref (q 0)), (0, .ref b)]) hx hb d_LA_law_29 rfl hl (by decide) rfl (fun ls hl => ?_)
  refine cx_iconst hx hb d_LA_law_30 ?_
  refine lv_istore (lv' := [(4, .int (iI 1)), (3, .ref o), (2, .ref (qm 20)), (1, .ref (q 0)), (0, .ref b)]) hx hb d_LA_law_31 hl (by decide) rfl (fun ls hl => ?_)
  have hX0 : okX x00 := ⟨⟨fun j => ⟨by show (0 : Int) ≤ 0; decide, by show (0 : Int) < 64; decide⟩, fun j => Or.inl rfl⟩, (by unfold okR; show _; simp [x00]), ⟨fun j => ⟨by show (0 : Int) ≤ 0; decide, by show (0 : Int) < 64; decide⟩, fun j _ => rfl⟩⟩
  exact law_loop C1 hn hA0 hr hlocks 1000 1 x00 x00 (cst 0) (fun _ => 0) H _ ls _ _ (by omega) hX0 (by omega) (cx_sub hP [22, 0, 1, 2, 3, 4, 5, 6, 7, 8, 9, 10, 11, 12, 13, 14, 15, 16, 17, 18, 19, 20, 21] rfl) (hD.sub [22, 0, 1, 2, 3, 4, 5, 6, 7, 8, 9, 10, 11, 12, 13, 14, 15, 16, 17, 18, 19, 20, 21] (by decide) rfl) hS (lv_sub hl [0, 3, 2, 1, 4] rfl)
