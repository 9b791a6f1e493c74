/-! the Store: its cells, and what its methods do -/
abbrev ceF (ch mk : Int → Int) : Int → Int32 := fun z => iI (ch z + 64 * mk z)
abbrev sW (T : Nat → ClassId) (q : Nat → Nat) (n : Nat) (ch mk : Int → Int) : va_W := [(q 1, .inr (3, [.ref (q 2)])), (q 2, .inl (T 0, n, .inl (fun j : Nat => ceF ch mk (j : Int))))]
abbrev okC (ch mk : Int → Int) : Prop := (∀ j, 0 ≤ ch j ∧ ch j < 64) ∧ ∀ j, mk j = 0 ∨ mk j = 1
theorem ceF_put {ch mk : Int → Int} {z v k : Int} (j : Int) : fu (ceF ch mk) z (iI (v + 64 * k)) j = ceF (fu ch z v) (fu mk z k) j := by
  unfold fu ceF
  by_cases h : j = z
  · simp [h]
  · simp [h]
theorem ceF_wr {ch mk : Int → Int} {z v : Int} (j : Int) : fu (ceF ch mk) z (iI (v + 64 * mk z)) j = ceF (fu ch z v) mk j := by
  unfold fu ceF
  by_cases h : j = z
  · simp [h]
  · simp [h]
theorem fu_id (f : Int → Int) (z : Int) : fu f z (f z) = f := by
  funext j
  unfold fu
  by_cases h : j = z
  · simp [h]
  · simp [h]
theorem zn_in {c : Int} (h : 0 ≤ c ∧ c < 64) : 0 ≤ zn c ∧ zn c ≤ 48 := by unfold zn; omega
def flr (x : Int) : Int := if x = 0 then -1 else x
theorem flr_pos {x : Int} (h : ¬ x = 0) : flr x = x := if_neg h
theorem fld_no {n : Int} {mk : Int → Int} {u most : Int} {k : Nat} (h : ¬ (0 ≤ u ∧ u < n)) : fld n mk u most (k + 1) 1 = 0 := by
  rw [fld, if_neg (by omega)]
theorem okC_fu {ch mk : Int → Int} {z v : Int} (h : okC ch mk) (hv : 0 ≤ v ∧ v < 64) : okC (fu ch z v) mk := ⟨fun j => by
  unfold fu
  split
  · exact hv
  · exact h.1 j, h.2⟩
theorem okC_mk {ch mk : Int → Int} {z v : Int} (h : okC ch mk) (hv : v = 0 ∨ v = 1) : okC ch (fu mk z v) := ⟨h.1, fun j => by
  unfold fu
  split
  · exact hv
  · exact h.2 j⟩
theorem cmn_no {n : Int} {mk : Int → Int} {a b : Int} {k : Nat} (h : ¬ ((0 ≤ a ∧ a < n) ∧ (0 ≤ b ∧ b < n))) : cmn n mk a b (k + 1) 1 = 0 := by
  rw [cmn, if_neg (by omega)]
/-- an address by three characters from z on -/
def adr (ch : Int → Int) (z : Int) : Int := (ch z / 16 + ch (z + 2) / 16 * 4) * 1000 + vl (ch z) * 100 + vl (ch (z + 1)) * 10 + vl (ch (z + 2))
theorem adr_eq {ch : Int → Int} {z : Int} : iI ((zn (ch z) / 16 + zn (ch (z + 2)) / 16 * 4) * 1000 + vl (ch z) * 100 + vl (ch (z + 1)) * 10 + vl (ch (z + 2))) = iI (adr ch z) := by
  unfold adr zn
  rw [Int.mul_ediv_cancel _ (by decide), Int.mul_ediv_cancel _ (by decide)]
/-- an address x as three characters, the last one at z -/
def wad (ch : Int → Int) (z x : Int) : Int → Int := fu (fu (fu ch (z - 2) (wrt (x / 100 % 10) + 16 * (x / 1000 % 4))) (z - 1) (wrt (x / 10 % 10))) z (wrt (x % 10) + 16 * (x / 1000 / 4))
/-- so many marks up to there -/
def cnt (mk : Int → Int) : Nat → Int
  | 0 => 0
  | k + 1 => cnt mk k + mk (k : Int)
theorem cnt_step {mk : Int → Int} {j : Int} (h : 0 ≤ j) : cnt mk (j + 1).toNat = cnt mk j.toNat + mk j := by
  rw [show (j + 1).toNat = j.toNat + 1 by omega, cnt, Int.toNat_of_nonneg h]
/-- a span moved at once -/
def cpy (f : Int → Int) (sp dp k : Int) : Int → Int := fun j => if dp ≤ j ∧ j < dp + k then f (sp + (j - dp)) else f j
theorem ceF_cpy {ch mk : Int → Int} {sp dp k : Int} (h1 : 0 ≤ sp) (h2 : 0 ≤ dp) (h3 : 0 ≤ k) : va_cpy (fun j : Nat => ceF ch mk (j : Int)) (fun j : Nat => ceF ch mk (j : Int)) sp.toNat dp.toNat k.toNat = fun j : Nat => ceF (cpy ch sp dp k) (cpy mk sp dp k) (j : Int) := by
  funext j
  by_cases h : dp ≤ (j : Int) ∧ (j : Int) < dp + k
  · rw [pk_cpy_in (by omega) (by omega)]
    show ceF ch mk ((sp.toNat + (j - dp.toNat) : Nat) : Int) = _
    rw [show ((sp.toNat + (j - dp.toNat) : Nat) : Int) = sp + ((j : Int) - dp) by omega]
    simp [ceF, cpy, h]
  · rw [pk_cpy_out (by omega)]
    simp [ceF, cpy, h]
section CX6
variable {p : Program} {l : Launch} {e : Env} {R : Room} {s : State} {m : MethodId} {args : Array Value} {below : List Frame} {meth : Method} {c : Code} {H : Heap} {locs : List Loc} {cells slots : Nat} {Q : State → Prop} {cc : ByteArray} {pc : Nat} {ls : Array Slot} {rest : List Value} {D : va_G} {A : Nat → Prop} {a : Nat} {tys : List (ClassId × FieldType)} {ws : va_W} {H0 : Heap}
theorem cx_copy (hx : p.tables.exec = Jvm.exec) (hb : c.code = cc) (hml : c.maxLocals = ls.size) {own : String} {index : Nat} (hown : s.vm.findClass own = some m.cls) (hT : ∀ w ∈ BIG, w.before args s = true) (hl : Cond.methodLink own index arraycopyName ∈ BIG)
    (hK : va_K D vwCl tys s) (hP : va_P D vwCl ws H) (hD : va_D A ws) (hS : va_S A H0 H locs) (q0 q1 t0 t1 : Nat) {a0 : Nat} {c0 c1 : ClassId} {n0 n1 : Nat} {f g : Nat → Int32} (ha0 : ws[q0]? = some (a0, .inl (c0, n0, .inl f))) (ha1 : ws[q1]? = some (a, .inl (c1, n1, .inl g))) (ht0 : tys[t0]? = some (c0, .int)) (ht1 : tys[t1]? = some (c1, .int))
    {sp dp k : Int} (h1 : 0 ≤ sp) (h2 : 0 ≤ dp) (h3 : 0 ≤ k ∧ k < 2147483648) (h4 : sp + k ≤ n0 ∧ sp < 2147483648) (h5 : dp + k ≤ n1 ∧ dp < 2147483648) {g2 : Int → Int32} (hg : va_cpy f g sp.toNat dp.toNat k.toNat = fun j : Nat => g2 (j : Int))
    (hframes : 1 ≤ R.frames) (hlocals : (rest.map fun v => v.category).sum + (nativeFrameWords "java/lang/System" "arraycopy" 5 + 11) ≤ R.locals) (hdg : decode cc pc = .ok (.invokestatic index, 3))
    (kk : ∀ (H1 : Heap) (locs1 : List Loc), va_P D vwCl (ws.set q1 (a, .inl (c1, n1, .inl (fun j : Nat => g2 (j : Int))))) H1 → va_D A (ws.set q1 (a, .inl (c1, n1, .inl (fun j : Nat => g2 (j : Int))))) → va_S A H0 H1 locs1 → W p l e R s m args below meth c H1 locs1 cells slots Q (F0 m (pc + 3) ls rest)) : W p l e R s m args below meth c H locs cells slots Q (F0 m pc ls (.int (iI k) :: .int (iI dp) :: .ref a :: .int (iI sp) :: .ref a0 :: rest)) := by
  refine va_copyi hx hb hml hown (hT _ hl) (hT _ tw_442) (hT _ tw_441) (hT _ tw_13) hK hP hD hS q0 q1 t0 t1 ha0 ha1 ht0 ht1 rfl (iI_nneg (by omega)) (iI_nneg (by omega)) (iI_nneg (by omega)) (by rw [iI_clamp (by omega), iI_clamp (by omega)]; omega) (by rw [iI_clamp (by omega), iI_clamp (by omega)]; omega) (fun _ _ => rfl) hframes hlocals hdg (fun H1 locs1 => ?_)
  rw [iI_clamp (by omega), iI_clamp (by omega), iI_clamp (by omega), hg]
  exact kk H1 locs1
end CX6
set_option maxHeartbeats 4000000 in
set_option maxRecDepth 100000 in
theorem c_ST_size (l : Launch) (D : va_G) (T : Nat → ClassId) (sz : Nat) (q : Nat → Nat) (n : Nat) (ch mk : Int → Int) (hn : 400 ≤ n ∧ n ≤ 2000) : MI l y_ST_size (wY y_ST_size b_ST_size 1 (some .int)) (rmK 0) D vwCl (tyL T) nwL sz [.ref (q 1)] (sW T q n ch mk) (fun r (_ : Unit) => r = iI n) (fun _ => sW T q n ch mk) := by
  refine cx_inI (by decide) rfl (Nat.le_of_ble_eq_true rfl) ?_
  intro p e s m below meth cd ls A Q hx hb hml hT hown hret hP hK hD hN hS hA hl
  have hown : s.vm.findClass R_ST = some m.cls := hown
  have hl : lv_has ls 1 [(0, .ref (q 1))] := hl
  refine lv_aload_n hx hb d_ST_size_0 rfl (lv_at hl 0 rfl) ?_
  refine va_get (D := D) (ci := 3) (v := .ref (q 2)) (C := R_ST) (T := T_ST) (N := 1) hx hb hT lays_ST hown hK hP 0 rfl rfl 0 (by decide) (hT _ tw_31) (fun _ h9 => h9) rfl d_ST_size_1 ?_
  refine va_alen (v := iI ((n : Nat) : Int)) hx hb hK hP 1 0 rfl rfl (iI_nI n).symm d_ST_size_4 ?_
  exact hret () rfl hP hD hS d_ST_size_5

set_option maxHeartbeats 4000000 in
set_option maxRecDepth 100000 in
theorem c_ST_has (l : Launch) (D : va_G) (T : Nat → ClassId) (sz : Nat) (q : Nat → Nat) (n : Nat) (ch mk : Int → Int) (hn : 400 ≤ n ∧ n ≤ 2000) (z : Int) (h_z : -2147483648 ≤ z ∧ z < 2147483648) : MI l y_ST_has (wY y_ST_has b_ST_has 2 (some .boolean)) (rmK 0) D vwCl (tyL T) nwL sz [.ref (q 1), .int (iI (z))] (sW T q n ch mk) (fun r (_ : Unit) => (r = iI 1 ∧ (0 ≤ z ∧ z < n)) ∨ (r = iI 0 ∧ (¬ (0 ≤ z ∧ z < n)))) (fun _ => sW T q n ch mk) := by
  refine cx_inZ (by decide) rfl (Nat.le_of_ble_eq_true rfl) ?_
  intro p e s m below meth cd ls A Q hx hb hml hT hown hret hP hK hD hN hS hA hl
  have hown : s.vm.findClass R_ST = some m.cls := hown
  have hl : lv_has ls 2 [(0, .ref (q 1)), (1, .int (iI (z)))] := hl
  refine lv_iload_n hx hb d_ST_has_0 rfl (lv_at hl 1 rfl) ?_
  refine cx_if_lt (tgt := 17) hx hb d_ST_has_1 rfl (by omega) (fun h1 => ?_) (fun h1 => ?_)
  · refine cx_iconst hx hb d_ST_has_17 ?_
    exact hret () (Or.inl rfl) (Or.inr ⟨rfl, by omega⟩) hP hD hS d_ST_has_18
  · refine lv_iload_n hx hb d_ST_has_4 rfl (lv_at hl 1 rfl) ?_
    refine lv_aload_n hx hb d_ST_has_5 rfl (lv_at hl 0 rfl) ?_
    refine va_get (D := D) (ci := 3) (v := .ref (q 2)) (C := R_ST) (T := T_ST) (N := 1) hx hb hT lays_ST hown hK hP 0 rfl rfl 0 (by decide) (hT _ tw_31) (fun _ h9 => h9) rfl d_ST_has_6 ?_
    refine va_alen (v := iI ((n : Nat) : Int)) hx hb hK hP 1 0 rfl rfl (iI_nI n).symm d_ST_has_9 ?_
    refine cx_icmp_ge (tgt := 17) hx hb d_ST_has_10 rfl (by omega) (by omega) (fun h10 => ?_) (fun h10 => ?_)
    · refine cx_iconst hx hb d_ST_has_17 ?_
      exact hret () (Or.inl rfl) (Or.inr ⟨rfl, by omega⟩) hP hD hS d_ST_has_18
    · refine cx_iconst hx hb d_ST_has_13 ?_
      refine lv_goto (tgt := 18) hx hb d_ST_has_14 rfl ?_
      exact hret () (Or.inr rfl) (Or.inl ⟨rfl, by omega⟩) hP hD hS d_ST_has_18

set_option maxHeartbeats 4000000 in
set_option maxRecDepth 100000 in
theorem c_ST_hasSpan (l : Launch) (D : va_G) (T : Nat → ClassId) (sz : Nat) (q : Nat → Nat) (n : Nat) (ch mk : Int → Int) (hn : 400 ≤ n ∧ n ≤ 2000) (z k : Int) (h_z : -2147483648 ≤ z ∧ z < 2147483648) (hk : -2147483647 ≤ k ∧ k < 2147483648) : MI l y_ST_hasSpan (wY y_ST_hasSpan b_ST_hasSpan 3 (some .boolean)) (rmK 1) D vwCl (tyL T) nwL sz [.ref (q 1), .int (iI (z)), .int (iI (k))] (sW T q n ch mk) (fun r (_ : Unit) => (r = iI 1 ∧ ((0 ≤ z ∧ z < n) ∧ k - 1 ≤ z)) ∨ (r = iI 0 ∧ (¬ ((0 ≤ z ∧ z < n) ∧ k - 1 ≤ z)))) (fun _ => sW T q n ch mk) := by
  refine cx_inZ (by decide) rfl (Nat.le_of_ble_eq_true rfl) ?_
  intro p e s m below meth cd ls A Q hx hb hml hT hown hret hP hK hD hN hS hA hl
  have hown : s.vm.findClass R_ST = some m.cls := hown
  have hl : lv_has ls 3 [(0, .ref (q 1)), (1, .int (iI (z))), (2, .int (iI (k)))] := hl
  refine lv_aload_n hx hb d_ST_hasSpan_0 rfl (lv_at hl 0 rfl) ?_
  refine lv_iload_n hx hb d_ST_hasSpan_1 rfl (lv_at hl 1 rfl) ?_
  refine cx_cI (ws2 := fun _ => sW T q n ch mk) (cx_rV (q0 := 0) (ci := 3) (rest := []) (As := [.int (iI (z))]) hx hb hml hown hT hK hN hP hD hl.1 tw_368 k_ST_has (c_ST_has l D T s.heap.size q n ch mk hn z (by omega)) ⟨by decide, by decide⟩ ⟨rfl, rfl⟩ [0, 1] (by decide) rfl rfl rfl rfl rfl (Nat.le_of_ble_eq_true rfl) ⟨Nat.zero_le _, Nat.zero_le _⟩ d_ST_hasSpan_2) hP hD hS hA [0, 1] [] [0, 1] rfl (wr := []) rfl (by decide) (by decide) (fun _ => rfl) (by decide) (fun r u_ H locs hq2 hP hD hS => ?_)
  rcases hq2 with ⟨rfl, h2⟩ | ⟨rfl, h2⟩
  · refine cx_if_eq (tgt := 19) hx hb d_ST_hasSpan_5 rfl (by omega) (fun h0 => absurd h0 (by decide)) (fun _ => ?_)
    refine lv_iload_n hx hb d_ST_hasSpan_8 rfl (lv_at hl 1 rfl) ?_
    refine lv_iload_n hx hb d_ST_hasSpan_9 rfl (lv_at hl 2 rfl) ?_
    refine cx_iconst hx hb d_ST_hasSpan_10 ?_
    refine cx_isub hx hb d_ST_hasSpan_11 ?_
    refine cx_icmp_lt (tgt := 19) hx hb d_ST_hasSpan_12 rfl (by omega) (by omega) (fun h12 => ?_) (fun h12 => ?_)
    · refine cx_iconst hx hb d_ST_hasSpan_19 ?_
      exact hret () (Or.inl rfl) (Or.inr ⟨rfl, by omega⟩) hP hD hS d_ST_hasSpan_20
    · refine cx_iconst hx hb d_ST_hasSpan_15 ?_
      refine lv_goto (tgt := 20) hx hb d_ST_hasSpan_16 rfl ?_
      exact hret () (Or.inr rfl) (Or.inl ⟨rfl, by omega⟩) hP hD hS d_ST_hasSpan_20
  · refine cx_if_eq (tgt := 19) hx hb d_ST_hasSpan_5 rfl (by omega) (fun _ => ?_) (fun h0 => absurd h0 (by decide))
    refine cx_iconst hx hb d_ST_hasSpan_19 ?_
    exact hret () (Or.inl rfl) (Or.inr ⟨rfl, by omega⟩) hP hD hS d_ST_hasSpan_20

set_option maxHeartbeats 4000000 in
set_option maxRecDepth 100000 in
theorem c_ST_character (l : Launch) (D : va_G) (T : Nat → ClassId) (sz : Nat) (q : Nat → Nat) (n : Nat) (ch mk : Int → Int) (hn : 400 ≤ n ∧ n ≤ 2000) (hC : okC ch mk) (z : Int) (h_z : 0 ≤ z ∧ z < n) : MI l y_ST_character (wY y_ST_character b_ST_character 2 (some .int)) (rmK 0) D vwCl (tyL T) nwL sz [.ref (q 1), .int (iI (z))] (sW T q n ch mk) (fun r (_ : Unit) => r = iI (ch z)) (fun _ => sW T q n ch mk) := by
  refine cx_inI (by decide) rfl (Nat.le_of_ble_eq_true rfl) ?_
  intro p e s m below meth cd ls A Q hx hb hml hT hown hret hP hK hD hN hS hA hl
  have hown : s.vm.findClass R_ST = some m.cls := hown
  have hl : lv_has ls 2 [(0, .ref (q 1)), (1, .int (iI (z)))] := hl
  refine lv_aload_n hx hb d_ST_character_0 rfl (lv_at hl 0 rfl) ?_
  refine va_get (D := D) (ci := 3) (v := .ref (q 2)) (C := R_ST) (T := T_ST) (N := 1) hx hb hT lays_ST hown hK hP 0 rfl rfl 0 (by decide) (hT _ tw_31) (fun _ h9 => h9) rfl d_ST_character_1 ?_
  refine lv_iload_n hx hb d_ST_character_4 rfl (lv_at hl 1 rfl) ?_
  refine cx_iald (g := ceF ch mk) hx hb hK hP 1 0 rfl rfl (by omega) (by omega) d_ST_character_5 ?_
  refine cx_bipush hx hb d_ST_character_6 rfl ?_
  refine lv_iand hx hb d_ST_character_8 ?_
  refine cx_eq (bt_63 (hC.1 z) (hC.2 z)) ?_
  exact hret () rfl hP hD hS d_ST_character_9

set_option maxHeartbeats 4000000 in
set_option maxRecDepth 100000 in
theorem c_ST_hasMark (l : Launch) (D : va_G) (T : Nat → ClassId) (sz : Nat) (q : Nat → Nat) (n : Nat) (ch mk : Int → Int) (hn : 400 ≤ n ∧ n ≤ 2000) (hC : okC ch mk) (z : Int) (h_z : 0 ≤ z ∧ z < n) : MI l y_ST_hasMark (wY y_ST_hasMark b_ST_hasMark 2 (some .boolean)) (rmK 0) D vwCl (tyL T) nwL sz [.ref (q 1), .int (iI (z))] (sW T q n ch mk) (fun r (_ : Unit) => (r = iI 1 ∧ (mk z = 1)) ∨ (r = iI 0 ∧ (mk z = 0))) (fun _ => sW T q n ch mk) := by
  refine cx_inZ (by decide) rfl (Nat.le_of_ble_eq_true rfl) ?_
  intro p e s m below meth cd ls A Q hx hb hml hT hown hret hP hK hD hN hS hA hl
  have hown : s.vm.findClass R_ST = some m.cls := hown
  have hl : lv_has ls 2 [(0, .ref (q 1)), (1, .int (iI (z)))] := hl
  have hm := hC.2 z
  refine lv_aload_n hx hb d_ST_hasMark_0 rfl (lv_at hl 0 rfl) ?_
  refine va_get (D := D) (ci := 3) (v := .ref (q 2)) (C := R_ST) (T := T_ST) (N := 1) hx hb hT lays_ST hown hK hP 0 rfl rfl 0 (by decide) (hT _ tw_31) (fun _ h9 => h9) rfl d_ST_hasMark_1 ?_
  refine lv_iload_n hx hb d_ST_hasMark_4 rfl (lv_at hl 1 rfl) ?_
  refine cx_iald (g := ceF ch mk) hx hb hK hP 1 0 rfl rfl (by omega) (by omega) d_ST_hasMark_5 ?_
  refine cx_bipush hx hb d_ST_hasMark_6 rfl ?_
  refine lv_iand hx hb d_ST_hasMark_8 ?_
  refine cx_eq (bt_64 (hC.1 z) (hC.2 z)) ?_
  refine cx_if_eq (tgt := 16) hx hb d_ST_hasMark_9 rfl (by omega) (fun h9 => ?_) (fun h9 => ?_)
  · refine cx_iconst hx hb d_ST_hasMark_16 ?_
    exact hret () (Or.inl rfl) (Or.inr ⟨rfl, by omega⟩) hP hD hS d_ST_hasMark_17
  · refine cx_iconst hx hb d_ST_hasMark_12 ?_
    refine lv_goto (tgt := 17) hx hb d_ST_hasMark_13 rfl ?_
    exact hret () (Or.inr rfl) (Or.inl ⟨rfl, by omega⟩) hP hD hS d_ST_hasMark_17

set_option maxHeartbeats 4000000 in
set_option maxRecDepth 100000 in
theorem c_ST_zone (l : Launch) (D : va_G) (T : Nat → ClassId) (sz : Nat) (q : Nat → Nat) (n : Nat) (ch mk : Int → Int) (hn : 400 ≤ n ∧ n ≤ 2000) (hC : okC ch mk) (z : Int) (h_z : 0 ≤ z ∧ z < n) : MI l y_ST_zone (wY y_ST_zone b_ST_zone 2 (some .int)) (rmK 0) D vwCl (tyL T) nwL sz [.ref (q 1), .int (iI (z))] (sW T q n ch mk) (fun r (_ : Unit) => r = iI (zn (ch z))) (fun _ => sW T q n ch mk) := by
  refine cx_inI (by decide) rfl (Nat.le_of_ble_eq_true rfl) ?_
  intro p e s m below meth cd ls A Q hx hb hml hT hown hret hP hK hD hN hS hA hl
  have hown : s.vm.findClass R_ST = some m.cls := hown
  have hl : lv_has ls 2 [(0, .ref (q 1)), (1, .int (iI (z)))] := hl
  refine lv_aload_n hx hb d_ST_zone_0 rfl (lv_at hl 0 rfl) ?_
  refine va_get (D := D) (ci := 3) (v := .ref (q 2)) (C := R_ST) (T := T_ST) (N := 1) hx hb hT lays_ST hown hK hP 0 rfl rfl 0 (by decide) (hT _ tw_31) (fun _ h9 => h9) rfl d_ST_zone_1 ?_
  refine lv_iload_n hx hb d_ST_zone_4 rfl (lv_at hl 1 rfl) ?_
  refine cx_iald (g := ceF ch mk) hx hb hK hP 1 0 rfl rfl (by omega) (by omega) d_ST_zone_5 ?_
  refine cx_bipush hx hb d_ST_zone_6 rfl ?_
  refine lv_iand hx hb d_ST_zone_8 ?_
  refine cx_eq (bt_48 (hC.1 z) (hC.2 z)) ?_
  exact hret () rfl hP hD hS d_ST_zone_9

set_option maxHeartbeats 4000000 in
set_option maxRecDepth 100000 in
theorem c_ST_digit (l : Launch) (D : va_G) (T : Nat → ClassId) (sz : Nat) (q : Nat → Nat) (n : Nat) (ch mk : Int → Int) (hn : 400 ≤ n ∧ n ≤ 2000) (hC : okC ch mk) (z : Int) (h_z : 0 ≤ z ∧ z < n) : MI l y_ST_digit (wY y_ST_digit b_ST_digit 2 (some .int)) (rmK 0) D vwCl (tyL T) nwL sz [.ref (q 1), .int (iI (z))] (sW T q n ch mk) (fun r (_ : Unit) => r = iI (vl (ch z))) (fun _ => sW T q n ch mk) := by
  refine cx_inI (by decide) rfl (Nat.le_of_ble_eq_true rfl) ?_
  intro p e s m below meth cd ls A Q hx hb hml hT hown hret hP hK hD hN hS hA hl
  have hown : s.vm.findClass R_ST = some m.cls := hown
  have hl : lv_has ls 2 [(0, .ref (q 1)), (1, .int (iI (z)))] := hl
  refine lv_aload_n hx hb d_ST_digit_0 rfl (lv_at hl 0 rfl) ?_
  refine va_get (D := D) (ci := 3) (v := .ref (q 2)) (C := R_ST) (T := T_ST) (N := 1) hx hb hT lays_ST hown hK hP 0 rfl rfl 0 (by decide) (hT _ tw_31) (fun _ h9 => h9) rfl d_ST_digit_1 ?_
  refine lv_iload_n hx hb d_ST_digit_4 rfl (lv_at hl 1 rfl) ?_
  refine cx_iald (g := ceF ch mk) hx hb hK hP 1 0 rfl rfl (by omega) (by omega) d_ST_digit_5 ?_
  refine cx_bipush hx hb d_ST_digit_6 rfl ?_
  refine lv_iand hx hb d_ST_digit_8 ?_
  refine cx_eq (bt_15 (hC.1 z) (hC.2 z)) ?_
  refine cx_bipush hx hb d_ST_digit_9 rfl ?_
  refine cx_irem hx hb d_ST_digit_11 (by omega) (by omega) ?_
  exact hret () rfl hP hD hS d_ST_digit_12

set_option maxHeartbeats 4000000 in
set_option maxRecDepth 100000 in
theorem c_ST_isMinus (l : Launch) (D : va_G) (T : Nat → ClassId) (sz : Nat) (q : Nat → Nat) (n : Nat) (ch mk : Int → Int) (hn : 400 ≤ n ∧ n ≤ 2000) (hC : okC ch mk) (z : Int) (h_z : 0 ≤ z ∧ z < n) : MI l y_ST_isMinus (wY y_ST_isMinus b_ST_isMinus 2 (some .boolean)) (rmK 1) D vwCl (tyL T) nwL sz [.ref (q 1), .int (iI (z))] (sW T q n ch mk) (fun r (_ : Unit) => (r = iI 1 ∧ (zn (ch z) = 32)) ∨ (r = iI 0 ∧ (¬ zn (ch z) = 32))) (fun _ => sW T q n ch mk) := by
  refine cx_inZ (by decide) rfl (Nat.le_of_ble_eq_true rfl) ?_
  intro p e s m below meth cd ls A Q hx hb hml hT hown hret hP hK hD hN hS hA hl
  have hown : s.vm.findClass R_ST = some m.cls := hown
  have hl : lv_has ls 2 [(0, .ref (q 1)), (1, .int (iI (z)))] := hl
  have hc := hC.1 z
  have hz := zn_in hc
  refine lv_aload_n hx hb d_ST_isMinus_0 rfl (lv_at hl 0 rfl) ?_
  refine lv_iload_n hx hb d_ST_isMinus_1 rfl (lv_at hl 1 rfl) ?_
  refine cx_cI (ws2 := fun _ => sW T q n ch mk) (cx_rV (q0 := 0) (ci := 3) (rest := []) (As := [.int (iI (z))]) hx hb hml hown hT hK hN hP hD hl.1 tw_341 k_ST_zone (c_ST_zone l D T s.heap.size q n ch mk hn hC z (by omega)) ⟨by decide, by decide⟩ ⟨rfl, rfl⟩ [0, 1] (by decide) rfl rfl rfl rfl rfl (Nat.le_of_ble_eq_true rfl) ⟨Nat.zero_le _, Nat.zero_le _⟩ d_ST_isMinus_2) hP hD hS hA [0, 1] [] [0, 1] rfl (wr := []) rfl (by decide) (by decide) (fun _ => rfl) (by decide) (fun r u_ H locs hq2 hP hD hS => ?_)
  subst hq2
  refine cx_bipush hx hb d_ST_isMinus_5 rfl ?_
  refine cx_icmp_ne (tgt := 14) hx hb d_ST_isMinus_7 rfl (by omega) (by omega) (fun h7 => ?_) (fun h7 => ?_)
  · refine cx_iconst hx hb d_ST_isMinus_14 ?_
    exact hret () (Or.inl rfl) (Or.inr ⟨rfl, by omega⟩) hP hD hS d_ST_isMinus_15
  · refine cx_iconst hx hb d_ST_isMinus_10 ?_
    refine lv_goto (tgt := 15) hx hb d_ST_isMinus_11 rfl ?_
    exact hret () (Or.inr rfl) (Or.inl ⟨rfl, by omega⟩) hP hD hS d_ST_isMinus_15

set_option maxHeartbeats 4000000 in
set_option maxRecDepth 100000 in
theorem c_ST_place (l : Launch) (D : va_G) (T : Nat → ClassId) (sz : Nat) (q : Nat → Nat) (n : Nat) (ch mk : Int → Int) (hn : 400 ≤ n ∧ n ≤ 2000) (z : Int) (h_z : 0 ≤ z ∧ z < n) (v : Int) (h_v : 0 ≤ v ∧ v < 64) (k : Int) (hk : k = 0 ∨ k = 1) : MV l y_ST_place (wY y_ST_place b_ST_place 4 none) (rmK 0) D vwCl (tyL T) nwL sz [.ref (q 1), .int (iI (z)), .int (iI (v)), .int (iI (k))] (sW T q n ch mk) (fun (_ : Unit) => True) (fun _ => sW T q n (fu ch z v) (fu mk z k)) := by
  refine cx_inV (by decide) rfl (Nat.le_of_ble_eq_true rfl) ?_
  intro p e s m below meth cd ls A Q hx hb hml hT hown hret hP hK hD hN hS hA hl
  have hown : s.vm.findClass R_ST = some m.cls := hown
  have hl : lv_has ls 4 [(0, .ref (q 1)), (1, .int (iI (z))), (2, .int (iI (v))), (3, .int (iI (k)))] := hl
  refine lv_aload_n hx hb d_ST_place_0 rfl (lv_at hl 0 rfl) ?_
  refine va_get (D := D) (ci := 3) (v := .ref (q 2)) (C := R_ST) (T := T_ST) (N := 1) hx hb hT lays_ST hown hK hP 0 rfl rfl 0 (by decide) (hT _ tw_31) (fun _ h9 => h9) rfl d_ST_place_1 ?_
  refine lv_iload_n hx hb d_ST_place_4 rfl (lv_at hl 1 rfl) ?_
  refine lv_iload_n hx hb d_ST_place_5 rfl (lv_at hl 3 rfl) ?_
  refine cx_if_eq (tgt := 16) hx hb d_ST_place_6 rfl (by omega) (fun h6 => ?_) (fun h6 => ?_)
  · subst h6
    refine lv_iload_n hx hb d_ST_place_16 rfl (lv_at hl 2 rfl) ?_
    refine cx_eq (show iI v = iI (v + 64 * 0) by rw [Int.mul_zero, Int.add_zero]) ?_
    refine cx_iast (g := ceF ch mk) (g' := ceF (fu ch z v) (fu mk z 0)) hx hb hK hP hD hS 1 0 rfl rfl (by omega) (by omega) (fun j => ceF_put j) d_ST_place_17 (fun H locs hP hD hS => ?_)
    have hP : va_P D vwCl (sW T q n (fu ch z v) (fu mk z 0)) H := hP
    have hD : va_D A (sW T q n (fu ch z v) (fu mk z 0)) := hD
    exact hret () trivial hP hD hS d_ST_place_18
  · obtain rfl : k = 1 := by omega
    refine lv_iload_n hx hb d_ST_place_9 rfl (lv_at hl 2 rfl) ?_
    refine cx_bipush hx hb d_ST_place_10 rfl ?_
    refine lv_ior hx hb d_ST_place_12 ?_
    refine cx_eq (bt_om h_v) ?_
    refine lv_goto (tgt := 17) hx hb d_ST_place_13 rfl ?_
    refine cx_iast (g := ceF ch mk) (g' := ceF (fu ch z v) (fu mk z 1)) hx hb hK hP hD hS 1 0 rfl rfl (by omega) (by omega) (fun j => ceF_put j) d_ST_place_17 (fun H locs hP hD hS => ?_)
    have hP : va_P D vwCl (sW T q n (fu ch z v) (fu mk z 1)) H := hP
    have hD : va_D A (sW T q n (fu ch z v) (fu mk z 1)) := hD
    exact hret () trivial hP hD hS d_ST_place_18

set_option maxHeartbeats 4000000 in
set_option maxRecDepth 100000 in
theorem c_ST_write (l : Launch) (D : va_G) (T : Nat → ClassId) (sz : Nat) (q : Nat → Nat) (n : Nat) (ch mk : Int → Int) (hn : 400 ≤ n ∧ n ≤ 2000) (hC : okC ch mk) (z : Int) (h_z : 0 ≤ z ∧ z < n) (v : Int) (h_v : 0 ≤ v ∧ v < 64) : MV l y_ST_write (wY y_ST_write b_ST_write 3 none) (rmK 0) D vwCl (tyL T) nwL sz [.ref (q 1), .int (iI (z)), .int (iI (v))] (sW T q n ch mk) (fun (_ : Unit) => True) (fun _ => sW T q n (fu ch z v) mk) := by
  refine cx_inV (by decide) rfl (Nat.le_of_ble_eq_true rfl) ?_
  intro p e s m below meth cd ls A Q hx hb hml hT hown hret hP hK hD hN hS hA hl
  have hown : s.vm.findClass R_ST = some m.cls := hown
  have hl : lv_has ls 3 [(0, .ref (q 1)), (1, .int (iI (z))), (2, .int (iI (v)))] := hl
  refine lv_aload_n hx hb d_ST_write_0 rfl (lv_at hl 0 rfl) ?_
  refine va_get (D := D) (ci := 3) (v := .ref (q 2)) (C := R_ST) (T := T_ST) (N := 1) hx hb hT lays_ST hown hK hP 0 rfl rfl 0 (by decide) (hT _ tw_31) (fun _ h9 => h9) rfl d_ST_write_1 ?_
  refine lv_iload_n hx hb d_ST_write_4 rfl (lv_at hl 1 rfl) ?_
  refine lv_aload_n hx hb d_ST_write_5 rfl (lv_at hl 0 rfl) ?_
  refine va_get (D := D) (ci := 3) (v := .ref (q 2)) (C := R_ST) (T := T_ST) (N := 1) hx hb hT lays_ST hown hK hP 0 rfl rfl 0 (by decide) (hT _ tw_31) (fun _ h9 => h9) rfl d_ST_write_6 ?_
  refine lv_iload_n hx hb d_ST_write_9 rfl (lv_at hl 1 rfl) ?_
  refine cx_iald (g := ceF ch mk) hx hb hK hP 1 0 rfl rfl (by omega) (by omega) d_ST_write_10 ?_
  refine cx_bipush hx hb d_ST_write_11 rfl ?_
  refine lv_iand hx hb d_ST_write_13 ?_
  refine cx_eq (bt_64 (hC.1 z) (hC.2 z)) ?_
  refine lv_iload_n hx hb d_ST_write_14 rfl (lv_at hl 2 rfl) ?_
  refine lv_ior hx hb d_ST_write_15 ?_
  refine cx_eq (bt_mo h_v (hC.2 z)) ?_
  refine cx_iast (g := ceF ch mk) (g' := ceF (fu ch z v) mk) hx hb hK hP hD hS 1 0 rfl rfl (by omega) (by omega) (fun j => ceF_wr j) d_ST_write_16 (fun H locs hP hD hS => ?_)
  have hP : va_P D vwCl (sW T q n (fu ch z v) mk) H := hP
  have hD : va_D A (sW T q n (fu ch z v) mk) := hD
  exact hret () trivial hP hD hS d_ST_write_17

set_option maxHeartbeats 4000000 in
set_option maxRecDepth 100000 in
theorem c_ST_writeZone (l : Launch) (D : va_G) (T : Nat → ClassId) (sz : Nat) (q : Nat → Nat) (n : Nat) (ch mk : Int → Int) (hn : 400 ≤ n ∧ n ≤ 2000) (hC : okC ch mk) (z : Int) (h_z : 0 ≤ z ∧ z < n) (v : Int) (h_v : 0 ≤ v ∧ v < 4) : MV l y_ST_writeZone (wY y_ST_writeZone b_ST_writeZone 3 none) (rmK 1) D vwCl (tyL T) nwL sz [.ref (q 1), .int (iI (z)), .int (iI (16 * v))] (sW T q n ch mk) (fun (_ : Unit) => True) (fun _ => sW T q n (fu ch z (ch z % 16 + 16 * v)) mk) := by
  refine cx_inV (by decide) rfl (Nat.le_of_ble_eq_true rfl) ?_
  intro p e s m below meth cd ls A Q hx hb hml hT hown hret hP hK hD hN hS hA hl
  have hown : s.vm.findClass R_ST = some m.cls := hown
  have hl : lv_has ls 3 [(0, .ref (q 1)), (1, .int (iI (z))), (2, .int (iI (16 * v)))] := hl
  have hc := hC.1 z
  refine lv_aload_n hx hb d_ST_writeZone_0 rfl (lv_at hl 0 rfl) ?_
  refine lv_iload_n hx hb d_ST_writeZone_1 rfl (lv_at hl 1 rfl) ?_
  refine lv_aload_n hx hb d_ST_writeZone_2 rfl (lv_at hl 0 rfl) ?_
  refine lv_iload_n hx hb d_ST_writeZone_3 rfl (lv_at hl 1 rfl) ?_
  refine cx_cI (ws2 := fun _ => sW T q n ch mk) (cx_rV (q0 := 0) (ci := 3) (rest := [.int (iI (z)), .ref (q 1)]) (As := [.int (iI (z))]) hx hb hml hown hT hK hN hP hD hl.1 tw_397 k_ST_character (c_ST_character l D T s.heap.size q n ch mk hn hC z (by omega)) ⟨by decide, by decide⟩ ⟨rfl, rfl⟩ [0, 1] (by decide) rfl rfl rfl rfl rfl (Nat.le_of_ble_eq_true rfl) ⟨Nat.zero_le _, Nat.zero_le _⟩ d_ST_writeZone_4) hP hD hS hA [0, 1] [] [0, 1] rfl (wr := []) rfl (by decide) (by decide) (fun _ => rfl) (by decide) (fun r u_ H locs hq4 hP hD hS => ?_)
  subst hq4
  refine cx_bipush hx hb d_ST_writeZone_7 rfl ?_
  refine lv_iand hx hb d_ST_writeZone_9 ?_
  refine cx_eq (bt_c15 hc) ?_
  refine lv_iload_n hx hb d_ST_writeZone_10 rfl (lv_at hl 2 rfl) ?_
  refine lv_ior hx hb d_ST_writeZone_11 ?_
  refine cx_eq (bt_dz (by omega) h_v) ?_
  refine cx_cV (ws2 := fun _ => sW T q n (fu ch (z) (ch z % 16 + 16 * v)) mk) (cx_rV (q0 := 0) (ci := 3) (rest := []) (As := [.int (iI (z)), .int (iI (ch z % 16 + 16 * v))]) hx hb hml hown hT hK hN hP hD hl.1 tw_398 k_ST_write (c_ST_write l D T H.size q n ch mk hn hC z (by omega) (ch z % 16 + 16 * v) (by omega)) ⟨by decide, by decide⟩ ⟨rfl, rfl⟩ [0, 1] (by decide) rfl rfl rfl rfl rfl (Nat.le_of_ble_eq_true rfl) ⟨Nat.zero_le _, Nat.zero_le _⟩ d_ST_writeZone_12) hP hD hS hA [0, 1] [] [0, 1] rfl (wr := []) rfl (by decide) (by decide) (fun _ => rfl) (by decide) (fun u_ H locs hq12 hP hD hS => ?_)
  have hC : okC (fu ch (z) (ch z % 16 + 16 * v)) mk := okC_fu hC (by omega)
  exact hret () trivial hP hD hS d_ST_writeZone_15

set_option maxHeartbeats 4000000 in
set_option maxRecDepth 100000 in
theorem c_ST_mark (l : Launch) (D : va_G) (T : Nat → ClassId) (sz : Nat) (q : Nat → Nat) (n : Nat) (ch mk : Int → Int) (hn : 400 ≤ n ∧ n ≤ 2000) (hC : okC ch mk) (z : Int) (h_z : 0 ≤ z ∧ z < n) (k : Int) (hk : k = 0 ∨ k = 1) : MV l y_ST_mark (wY y_ST_mark b_ST_mark 3 none) (rmK 1) D vwCl (tyL T) nwL sz [.ref (q 1), .int (iI (z)), .int (iI (k))] (sW T q n ch mk) (fun (_ : Unit) => True) (fun _ => sW T q n ch (fu mk z k)) := by
  refine cx_inV (by decide) rfl (Nat.le_of_ble_eq_true rfl) ?_
  intro p e s m below meth cd ls A Q hx hb hml hT hown hret hP hK hD hN hS hA hl
  have hown : s.vm.findClass R_ST = some m.cls := hown
  have hl : lv_has ls 3 [(0, .ref (q 1)), (1, .int (iI (z))), (2, .int (iI (k)))] := hl
  have hc := hC.1 z
  refine lv_aload_n hx hb d_ST_mark_0 rfl (lv_at hl 0 rfl) ?_
  refine lv_iload_n hx hb d_ST_mark_1 rfl (lv_at hl 1 rfl) ?_
  refine lv_aload_n hx hb d_ST_mark_2 rfl (lv_at hl 0 rfl) ?_
  refine lv_iload_n hx hb d_ST_mark_3 rfl (lv_at hl 1 rfl) ?_
  refine cx_cI (ws2 := fun _ => sW T q n ch mk) (cx_rV (q0 := 0) (ci := 3) (rest := [.int (iI (z)), .ref (q 1)]) (As := [.int (iI (z))]) hx hb hml hown hT hK hN hP hD hl.1 tw_397 k_ST_character (c_ST_character l D T s.heap.size q n ch mk hn hC z (by omega)) ⟨by decide, by decide⟩ ⟨rfl, rfl⟩ [0, 1] (by decide) rfl rfl rfl rfl rfl (Nat.le_of_ble_eq_true rfl) ⟨Nat.zero_le _, Nat.zero_le _⟩ d_ST_mark_4) hP hD hS hA [0, 1] [] [0, 1] rfl (wr := []) rfl (by decide) (by decide) (fun _ => rfl) (by decide) (fun r u_ H locs hq4 hP hD hS => ?_)
  subst hq4
  refine lv_iload_n hx hb d_ST_mark_7 rfl (lv_at hl 2 rfl) ?_
  refine cx_cV (ws2 := fun _ => sW T q n (fu ch (z) (ch (z))) (fu mk (z) (k))) (cx_rV (q0 := 0) (ci := 3) (rest := []) (As := [.int (iI (z)), .int (iI (ch (z))), .int (iI (k))]) hx hb hml hown hT hK hN hP hD hl.1 tw_469 k_ST_place (c_ST_place l D T H.size q n ch mk hn z (by omega) (ch (z)) (by omega) k (by omega)) ⟨by decide, by decide⟩ ⟨rfl, rfl⟩ [0, 1] (by decide) rfl rfl rfl rfl rfl (Nat.le_of_ble_eq_true rfl) ⟨Nat.zero_le _, Nat.zero_le _⟩ d_ST_mark_8) hP hD hS hA [0, 1] [] [0, 1] rfl (wr := []) rfl (by decide) (by decide) (fun _ => rfl) (by decide) (fun u_ H locs hq8 hP hD hS => ?_)
  have e9 : fu ch z (ch z) = ch := fu_id ch z
  rw [e9] at hP hD
  exact hret () trivial hP hD hS d_ST_mark_11

set_option maxHeartbeats 4000000 in
set_option maxRecDepth 100000 in
theorem c_ST_fieldLength2 (l : Launch) (D : va_G) (T : Nat → ClassId) (sz : Nat) (q : Nat → Nat) (n : Nat) (ch mk : Int → Int) (hn : 400 ≤ n ∧ n ≤ 2000) (hC : okC ch mk) (u most : Int) (h_u : -2147483648 ≤ u ∧ u < 2147483648) (hm : -2147483648 ≤ most ∧ most < 2147483648) : MI l y_ST_fieldLength2 (wY y_ST_fieldLength2 b_ST_fieldLength2 4 (some .int)) (rmK 1) D vwCl (tyL T) nwL sz [.ref (q 1), .int (iI (u)), .int (iI (most))] (sW T q n ch mk) (fun r (_ : Unit) => r = iI (flr (fld n mk u most 2001 1))) (fun _ => sW T q n ch mk) := by
  refine cx_inI (by decide) rfl (Nat.le_of_ble_eq_true rfl) ?_
  intro p e s m below meth cd ls A Q hx hb hml hT hown hret hP hK hD hN hS hA hl
  have hown : s.vm.findClass R_ST = some m.cls := hown
  have hl : lv_has ls 4 [(0, .ref (q 1)), (1, .int (iI (u))), (2, .int (iI (most)))] := hl
  refine lv_aload_n hx hb d_ST_fieldLength2_0 rfl (lv_at hl 0 rfl) ?_
  refine lv_iload_n hx hb d_ST_fieldLength2_1 rfl (lv_at hl 1 rfl) ?_
  refine cx_cI (ws2 := fun _ => sW T q n ch mk) (cx_rV (q0 := 0) (ci := 3) (rest := []) (As := [.int (iI (u))]) hx hb hml hown hT hK hN hP hD hl.1 tw_368 k_ST_has (c_ST_has l D T s.heap.size q n ch mk hn u (by omega)) ⟨by decide, by decide⟩ ⟨rfl, rfl⟩ [0, 1] (by decide) rfl rfl rfl rfl rfl (Nat.le_of_ble_eq_true rfl) ⟨Nat.zero_le _, Nat.zero_le _⟩ d_ST_fieldLength2_2) hP hD hS hA [0, 1] [] [0, 1] rfl (wr := []) rfl (by decide) (by decide) (fun _ => rfl) (by decide) (fun r u_ H locs hq2 hP hD hS => ?_)
  rcases hq2 with ⟨rfl, h2⟩ | ⟨rfl, h2⟩
  · refine cx_if_ne (tgt := 10) hx hb d_ST_fieldLength2_5 rfl (by omega) (fun _ => ?_) (fun h0 => absurd h0 (by decide))
    refine cx_iconst hx hb d_ST_fieldLength2_10 ?_
    refine lv_istore_n (lv' := [(3, .int (iI (1))), (0, .ref (q 1)), (1, .int (iI (u))), (2, .int (iI (most)))]) hx hb d_ST_fieldLength2_11 rfl hl (by decide) rfl (fun ls hl => ?_)
    have L1 : ∀ (k_ : Nat) (j : Int) (H : Heap) (locs : List Loc) (ls : Array Slot), (1 ≤ j ∧ j ≤ u + 2 ∧ u + 2 - j < k_) → (fld n mk u most 2001 1 = fld n mk u most k_ j) → va_P D vwCl (sW T q n ch mk) H → va_D A (sW T q n ch mk) → va_S A s.heap H locs → lv_has ls 4 [(3, .int (iI (j))), (0, .ref (q 1)), (1, .int (iI (u))), (2, .int (iI (most)))] → W p l e (rmK 1) s m ([.ref (q 1), .int (iI (u)), .int (iI (most))] : List Value).toArray below meth cd H locs 0 0 Q (F0 m 12 ls []) := by
      intro k_
      induction k_ with
      | zero => intro j H locs ls hj hf _ _ _ _; exact absurd hj (by omega)
      | succ k_ ih1 =>
        intro j H locs ls hj hf hP hD hS hl
        refine lv_iload_n hx hb d_ST_fieldLength2_12 rfl (lv_at hl 0 rfl) ?_
        refine lv_iload_n hx hb d_ST_fieldLength2_13 rfl (lv_at hl 2 rfl) ?_
        refine cx_iconst hx hb d_ST_fieldLength2_14 ?_
        refine cx_iadd hx hb d_ST_fieldLength2_15 ?_
        refine cx_icmp_gt (tgt := 44) hx hb d_ST_fieldLength2_16 rfl (by omega) (by omega) (fun h16 => ?_) (fun h16 => ?_)
        · refine cx_iconst hx hb d_ST_fieldLength2_44 ?_
          exact hret () (by rw [hf, fld, if_neg (by omega)]; rfl) hP hD hS d_ST_fieldLength2_45
        · refine lv_iload_n hx hb d_ST_fieldLength2_19 rfl (lv_at hl 0 rfl) ?_
          refine lv_iload_n hx hb d_ST_fieldLength2_20 rfl (lv_at hl 3 rfl) ?_
          refine cx_icmp_eq (tgt := 36) hx hb d_ST_fieldLength2_21 rfl (by omega) (by omega) (fun h21 => ?_) (fun h21 => ?_)
          · refine lv_iload_n hx hb d_ST_fieldLength2_36 rfl (lv_at hl 0 rfl) ?_
            exact hret () (by rw [hf, fld, if_pos (by omega), if_pos (by omega), flr_pos (by omega)]) hP hD hS d_ST_fieldLength2_37
          · refine lv_aload_n hx hb d_ST_fieldLength2_24 rfl (lv_at hl 1 rfl) ?_
            refine lv_iload_n hx hb d_ST_fieldLength2_25 rfl (lv_at hl 2 rfl) ?_
            refine lv_iload_n hx hb d_ST_fieldLength2_26 rfl (lv_at hl 0 rfl) ?_
            refine cx_isub hx hb d_ST_fieldLength2_27 ?_
            refine cx_iconst hx hb d_ST_fieldLength2_28 ?_
            refine cx_iadd hx hb d_ST_fieldLength2_29 ?_
            refine cx_cI (ws2 := fun _ => sW T q n ch mk) (cx_rV (q0 := 0) (ci := 3) (rest := []) (As := [.int (iI ((u - j) + 1))]) hx hb hml hown hT hK hN hP hD hl.1 tw_192 k_ST_hasMark (c_ST_hasMark l D T H.size q n ch mk hn hC ((u - j) + 1) (by omega)) ⟨by decide, by decide⟩ ⟨rfl, rfl⟩ [0, 1] (by decide) rfl rfl rfl rfl rfl (Nat.le_of_ble_eq_true rfl) ⟨Nat.zero_le _, Nat.zero_le _⟩ d_ST_fieldLength2_30) hP hD hS hA [0, 1] [] [0, 1] rfl (wr := []) rfl (by decide) (by decide) (fun _ => rfl) (by decide) (fun r u_ H locs hq30 hP hD hS => ?_)
            rcases hq30 with ⟨rfl, h30⟩ | ⟨rfl, h30⟩
            · refine cx_if_eq (tgt := 38) hx hb d_ST_fieldLength2_33 rfl (by omega) (fun h0 => absurd h0 (by decide)) (fun _ => ?_)
              refine lv_iload_n hx hb d_ST_fieldLength2_36 rfl (lv_at hl 0 rfl) ?_
              exact hret () (by rw [hf, fld, if_pos (by omega), if_pos (by omega), flr_pos (by omega)]) hP hD hS d_ST_fieldLength2_37
            · refine cx_if_eq (tgt := 38) hx hb d_ST_fieldLength2_33 rfl (by omega) (fun _ => ?_) (fun h0 => absurd h0 (by decide))
              refine cx_iinc (k := 0) (lv' := [(3, .int (iI (j + 1))), (0, .ref (q 1)), (1, .int (iI (u))), (2, .int (iI (most)))]) hx hb d_ST_fieldLength2_38 hl rfl (by decide) rfl (fun ls hl => ?_)
              refine lv_goto (tgt := 12) hx hb d_ST_fieldLength2_41 rfl ?_
              exact ih1 (j + 1) _ _ _ (by omega) (by rw [hf, fld, if_pos (by omega), if_neg (by omega)]) hP hD hS (lv_sub hl [0, 1, 2, 3] rfl)
    exact L1 2001 1 _ _ _ (by omega) rfl hP hD hS (lv_sub hl [0, 1, 2, 3] rfl)
  · refine cx_if_ne (tgt := 10) hx hb d_ST_fieldLength2_5 rfl (by omega) (fun h0 => absurd h0 (by decide)) (fun _ => ?_)
    refine cx_iconst hx hb d_ST_fieldLength2_8 ?_
    exact hret () (by rw [fld_no h2]; rfl) hP hD hS d_ST_fieldLength2_9

set_option maxHeartbeats 4000000 in
set_option maxRecDepth 100000 in
theorem c_ST_fieldLength1 (l : Launch) (D : va_G) (T : Nat → ClassId) (sz : Nat) (q : Nat → Nat) (n : Nat) (ch mk : Int → Int) (hn : 400 ≤ n ∧ n ≤ 2000) (hC : okC ch mk) (u : Int) (h_u : -2147483648 ≤ u ∧ u < 2147483648) : MI l y_ST_fieldLength1 (wY y_ST_fieldLength1 b_ST_fieldLength1 2 (some .int)) (rmK 2) D vwCl (tyL T) nwL sz [.ref (q 1), .int (iI (u))] (sW T q n ch mk) (fun r (_ : Unit) => r = iI (flr (fld n mk u (n + 1) 2001 1))) (fun _ => sW T q n ch mk) := by
  refine cx_inI (by decide) rfl (Nat.le_of_ble_eq_true rfl) ?_
  intro p e s m below meth cd ls A Q hx hb hml hT hown hret hP hK hD hN hS hA hl
  have hown : s.vm.findClass R_ST = some m.cls := hown
  have hl : lv_has ls 2 [(0, .ref (q 1)), (1, .int (iI (u)))] := hl
  refine lv_aload_n hx hb d_ST_fieldLength1_0 rfl (lv_at hl 0 rfl) ?_
  refine lv_iload_n hx hb d_ST_fieldLength1_1 rfl (lv_at hl 1 rfl) ?_
  refine lv_aload_n hx hb d_ST_fieldLength1_2 rfl (lv_at hl 0 rfl) ?_
  refine va_get (D := D) (ci := 3) (v := .ref (q 2)) (C := R_ST) (T := T_ST) (N := 1) hx hb hT lays_ST hown hK hP 0 rfl rfl 0 (by decide) (hT _ tw_31) (fun _ h9 => h9) rfl d_ST_fieldLength1_3 ?_
  refine va_alen (v := iI ((n : Nat) : Int)) hx hb hK hP 1 0 rfl rfl (iI_nI n).symm d_ST_fieldLength1_6 ?_
  refine cx_iconst hx hb d_ST_fieldLength1_7 ?_
  refine cx_iadd hx hb d_ST_fieldLength1_8 ?_
  refine cx_cI (ws2 := fun _ => sW T q n ch mk) (cx_rV (q0 := 0) (ci := 3) (rest := []) (As := [.int (iI (u)), .int (iI (((n : Int)) + 1))]) hx hb hml hown hT hK hN hP hD hl.1 tw_364 k_ST_fieldLength2 (c_ST_fieldLength2 l D T s.heap.size q n ch mk hn hC u (((n : Int)) + 1) (by omega) (by omega)) ⟨by decide, by decide⟩ ⟨rfl, rfl⟩ [0, 1] (by decide) rfl rfl rfl rfl rfl (Nat.le_of_ble_eq_true rfl) ⟨Nat.zero_le _, Nat.zero_le _⟩ d_ST_fieldLength1_9) hP hD hS hA [0, 1] [] [0, 1] rfl (wr := []) rfl (by decide) (by decide) (fun _ => rfl) (by decide) (fun r u_ H locs hq9 hP hD hS => ?_)
  subst hq9
  exact hret () rfl hP hD hS d_ST_fieldLength1_12

set_option maxHeartbeats 4000000 in
set_option maxRecDepth 100000 in
theorem c_ST_commonLength (l : Launch) (D : va_G) (T : Nat → ClassId) (sz : Nat) (q : Nat → Nat) (n : Nat) (ch mk : Int → Int) (hn : 400 ≤ n ∧ n ≤ 2000) (hC : okC ch mk) (a b : Int) (ha : -2147483648 ≤ a ∧ a < 2147483648) (hb1 : -2147483648 ≤ b ∧ b < 2147483648) : MI l y_ST_commonLength (wY y_ST_commonLength b_ST_commonLength 5 (some .int)) (rmK 1) D vwCl (tyL T) nwL sz [.ref (q 1), .int (iI (a)), .int (iI (b))] (sW T q n ch mk) (fun r (_ : Unit) => r = iI (flr (cmn n mk a b 2001 1))) (fun _ => sW T q n ch mk) := by
  refine cx_inI (by decide) rfl (Nat.le_of_ble_eq_true rfl) ?_
  intro p e s m below meth cd ls A Q hx hb hml hT hown hret hP hK hD hN hS hA hl
  have hown : s.vm.findClass R_ST = some m.cls := hown
  have hl : lv_has ls 5 [(0, .ref (q 1)), (1, .int (iI (a))), (2, .int (iI (b)))] := hl
  refine lv_aload_n hx hb d_ST_commonLength_0 rfl (lv_at hl 0 rfl) ?_
  refine lv_iload_n hx hb d_ST_commonLength_1 rfl (lv_at hl 1 rfl) ?_
  refine cx_cI (ws2 := fun _ => sW T q n ch mk) (cx_rV (q0 := 0) (ci := 3) (rest := []) (As := [.int (iI (a))]) hx hb hml hown hT hK hN hP hD hl.1 tw_368 k_ST_has (c_ST_has l D T s.heap.size q n ch mk hn a (by omega)) ⟨by decide, by decide⟩ ⟨rfl, rfl⟩ [0, 1] (by decide) rfl rfl rfl rfl rfl (Nat.le_of_ble_eq_true rfl) ⟨Nat.zero_le _, Nat.zero_le _⟩ d_ST_commonLength_2) hP hD hS hA [0, 1] [] [0, 1] rfl (wr := []) rfl (by decide) (by decide) (fun _ => rfl) (by decide) (fun r u_ H locs hq2 hP hD hS => ?_)
  rcases hq2 with ⟨rfl, h2⟩ | ⟨rfl, h2⟩
  · refine cx_if_eq (tgt := 16) hx hb d_ST_commonLength_5 rfl (by omega) (fun h0 => absurd h0 (by decide)) (fun _ => ?_)
    refine lv_aload_n hx hb d_ST_commonLength_8 rfl (lv_at hl 0 rfl) ?_
    refine lv_iload_n hx hb d_ST_commonLength_9 rfl (lv_at hl 2 rfl) ?_
    refine cx_cI (ws2 := fun _ => sW T q n ch mk) (cx_rV (q0 := 0) (ci := 3) (rest := []) (As := [.int (iI (b))]) hx hb hml hown hT hK hN hP hD hl.1 tw_368 k_ST_has (c_ST_has l D T H.size q n ch mk hn b (by omega)) ⟨by decide, by decide⟩ ⟨rfl, rfl⟩ [0, 1] (by decide) rfl rfl rfl rfl rfl (Nat.le_of_ble_eq_true rfl) ⟨Nat.zero_le _, Nat.zero_le _⟩ d_ST_commonLength_10) hP hD hS hA [0, 1] [] [0, 1] rfl (wr := []) rfl (by decide) (by decide) (fun _ => rfl) (by decide) (fun r u_ H locs hq10 hP hD hS => ?_)
    rcases hq10 with ⟨rfl, h10⟩ | ⟨rfl, h10⟩
    · refine cx_if_ne (tgt := 18) hx hb d_ST_commonLength_13 rfl (by omega) (fun _ => ?_) (fun h0 => absurd h0 (by decide))
      refine lv_iload_n hx hb d_ST_commonLength_18 rfl (lv_at hl 1 rfl) ?_
      refine lv_iload_n hx hb d_ST_commonLength_19 rfl (lv_at hl 2 rfl) ?_
      refine cx_min hx hb (hml.trans hl.1.symm) hown hT tw_424 (by decide) (Nat.le_of_ble_eq_true rfl) (Nat.zero_le _) (Nat.zero_le _) (by omega) (by omega) d_ST_commonLength_20 (fun t ht => ?_)
      refine cx_iconst hx hb d_ST_commonLength_23 ?_
      refine cx_iadd hx hb d_ST_commonLength_24 ?_
      refine lv_istore_n (lv' := [(3, .int (iI (t + 1))), (0, .ref (q 1)), (1, .int (iI (a))), (2, .int (iI (b)))]) hx hb d_ST_commonLength_25 rfl hl (by decide) rfl (fun ls hl => ?_)
      refine cx_iconst hx hb d_ST_commonLength_26 ?_
      refine lv_istore (lv' := [(4, .int (iI (1))), (3, .int (iI (t + 1))), (0, .ref (q 1)), (1, .int (iI (a))), (2, .int (iI (b)))]) hx hb d_ST_commonLength_27 hl (by decide) rfl (fun ls hl => ?_)
      have L1 : ∀ (k_ : Nat) (j : Int) (H : Heap) (locs : List Loc) (ls : Array Slot), (1 ≤ j ∧ j ≤ t + 2 ∧ t + 2 - j < k_) → (cmn n mk a b 2001 1 = cmn n mk a b k_ j) → va_P D vwCl (sW T q n ch mk) H → va_D A (sW T q n ch mk) → va_S A s.heap H locs → lv_has ls 5 [(4, .int (iI (j))), (3, .int (iI (t + 1))), (0, .ref (q 1)), (1, .int (iI (a))), (2, .int (iI (b)))] → W p l e (rmK 1) s m ([.ref (q 1), .int (iI (a)), .int (iI (b))] : List Value).toArray below meth cd H locs 0 0 Q (F0 m 29 ls []) := by
        intro k_
        induction k_ with
        | zero => intro j H locs ls hj hf _ _ _ _; exact absurd hj (by omega)
        | succ k_ ih1 =>
          intro j H locs ls hj hf hP hD hS hl
          refine lv_iload hx hb d_ST_commonLength_29 (lv_at hl 0 rfl) ?_
          refine lv_iload_n hx hb d_ST_commonLength_31 rfl (lv_at hl 1 rfl) ?_
          refine cx_icmp_gt (tgt := 70) hx hb d_ST_commonLength_32 rfl (by omega) (by omega) (fun h32 => ?_) (fun h32 => ?_)
          · refine cx_iconst hx hb d_ST_commonLength_70 ?_
            exact hret () (by rw [hf, cmn, if_neg (by omega)]; rfl) hP hD hS d_ST_commonLength_71
          · refine lv_aload_n hx hb d_ST_commonLength_35 rfl (lv_at hl 2 rfl) ?_
            refine lv_iload_n hx hb d_ST_commonLength_36 rfl (lv_at hl 3 rfl) ?_
            refine lv_iload hx hb d_ST_commonLength_37 (lv_at hl 0 rfl) ?_
            refine cx_isub hx hb d_ST_commonLength_39 ?_
            refine cx_iconst hx hb d_ST_commonLength_40 ?_
            refine cx_iadd hx hb d_ST_commonLength_41 ?_
            refine cx_cI (ws2 := fun _ => sW T q n ch mk) (cx_rV (q0 := 0) (ci := 3) (rest := []) (As := [.int (iI ((a - j) + 1))]) hx hb hml hown hT hK hN hP hD hl.1 tw_192 k_ST_hasMark (c_ST_hasMark l D T H.size q n ch mk hn hC ((a - j) + 1) (by omega)) ⟨by decide, by decide⟩ ⟨rfl, rfl⟩ [0, 1] (by decide) rfl rfl rfl rfl rfl (Nat.le_of_ble_eq_true rfl) ⟨Nat.zero_le _, Nat.zero_le _⟩ d_ST_commonLength_42) hP hD hS hA [0, 1] [] [0, 1] rfl (wr := []) rfl (by decide) (by decide) (fun _ => rfl) (by decide) (fun r u_ H locs hq42 hP hD hS => ?_)
            rcases hq42 with ⟨rfl, h42⟩ | ⟨rfl, h42⟩
            · refine cx_if_ne (tgt := 61) hx hb d_ST_commonLength_45 rfl (by omega) (fun _ => ?_) (fun h0 => absurd h0 (by decide))
              refine lv_iload hx hb d_ST_commonLength_61 (lv_at hl 0 rfl) ?_
              exact hret () (by rw [hf, cmn, if_pos (by omega), if_pos (by omega), flr_pos (by omega)]) hP hD hS d_ST_commonLength_63
            · refine cx_if_ne (tgt := 61) hx hb d_ST_commonLength_45 rfl (by omega) (fun h0 => absurd h0 (by decide)) (fun _ => ?_)
              refine lv_aload_n hx hb d_ST_commonLength_48 rfl (lv_at hl 2 rfl) ?_
              refine lv_iload_n hx hb d_ST_commonLength_49 rfl (lv_at hl 4 rfl) ?_
              refine lv_iload hx hb d_ST_commonLength_50 (lv_at hl 0 rfl) ?_
              refine cx_isub hx hb d_ST_commonLength_52 ?_
              refine cx_iconst hx hb d_ST_commonLength_53 ?_
              refine cx_iadd hx hb d_ST_commonLength_54 ?_
              refine cx_cI (ws2 := fun _ => sW T q n ch mk) (cx_rV (q0 := 0) (ci := 3) (rest := []) (As := [.int (iI ((b - j) + 1))]) hx hb hml hown hT hK hN hP hD hl.1 tw_192 k_ST_hasMark (c_ST_hasMark l D T H.size q n ch mk hn hC ((b - j) + 1) (by omega)) ⟨by decide, by decide⟩ ⟨rfl, rfl⟩ [0, 1] (by decide) rfl rfl rfl rfl rfl (Nat.le_of_ble_eq_true rfl) ⟨Nat.zero_le _, Nat.zero_le _⟩ d_ST_commonLength_55) hP hD hS hA [0, 1] [] [0, 1] rfl (wr := []) rfl (by decide) (by decide) (fun _ => rfl) (by decide) (fun r u_ H locs hq55 hP hD hS => ?_)
              rcases hq55 with ⟨rfl, h55⟩ | ⟨rfl, h55⟩
              · refine cx_if_eq (tgt := 64) hx hb d_ST_commonLength_58 rfl (by omega) (fun h0 => absurd h0 (by decide)) (fun _ => ?_)
                refine lv_iload hx hb d_ST_commonLength_61 (lv_at hl 0 rfl) ?_
                exact hret () (by rw [hf, cmn, if_pos (by omega), if_pos (by omega), flr_pos (by omega)]) hP hD hS d_ST_commonLength_63
              · refine cx_if_eq (tgt := 64) hx hb d_ST_commonLength_58 rfl (by omega) (fun _ => ?_) (fun h0 => absurd h0 (by decide))
                refine cx_iinc (k := 0) (lv' := [(4, .int (iI (j + 1))), (3, .int (iI (t + 1))), (0, .ref (q 1)), (1, .int (iI (a))), (2, .int (iI (b)))]) hx hb d_ST_commonLength_64 hl rfl (by decide) rfl (fun ls hl => ?_)
                refine lv_goto (tgt := 29) hx hb d_ST_commonLength_67 rfl ?_
                exact ih1 (j + 1) _ _ _ (by omega) (by rw [hf, cmn, if_pos (by omega), if_neg (by omega)]) hP hD hS (lv_sub hl [0, 1, 2, 3, 4] rfl)
      exact L1 2001 1 _ _ _ (by omega) rfl hP hD hS (lv_sub hl [0, 1, 2, 3, 4] rfl)
    · refine cx_if_ne (tgt := 18) hx hb d_ST_commonLength_13 rfl (by omega) (fun h0 => absurd h0 (by decide)) (fun _ => ?_)
      refine cx_iconst hx hb d_ST_commonLength_16 ?_
      exact hret () (by rw [cmn_no (by omega)]; rfl) hP hD hS d_ST_commonLength_17
  · refine cx_if_eq (tgt := 16) hx hb d_ST_commonLength_5 rfl (by omega) (fun _ => ?_) (fun h0 => absurd h0 (by decide))
    refine cx_iconst hx hb d_ST_commonLength_16 ?_
    exact hret () (by rw [cmn_no (by omega)]; rfl) hP hD hS d_ST_commonLength_17

set_option maxHeartbeats 4000000 in
set_option maxRecDepth 100000 in
theorem c_ST_address (l : Launch) (D : va_G) (T : Nat → ClassId) (sz : Nat) (q : Nat → Nat) (n : Nat) (ch mk : Int → Int) (hn : 400 ≤ n ∧ n ≤ 2000) (hC : okC ch mk) (z : Int) (h_z : 0 ≤ z ∧ z + 2 < n) : MI l y_ST_address (wY y_ST_address b_ST_address 3 (some .int)) (rmK 1) D vwCl (tyL T) nwL sz [.ref (q 1), .int (iI (z))] (sW T q n ch mk) (fun r (_ : Unit) => r = iI (adr ch z)) (fun _ => sW T q n ch mk) := by
  refine cx_inI (by decide) rfl (Nat.le_of_ble_eq_true rfl) ?_
  intro p e s m below meth cd ls A Q hx hb hml hT hown hret hP hK hD hN hS hA hl
  have hown : s.vm.findClass R_ST = some m.cls := hown
  have hl : lv_has ls 3 [(0, .ref (q 1)), (1, .int (iI (z)))] := hl
  have h1 := zn_in (hC.1 z)
  have h2 := zn_in (hC.1 (z + 2))
  refine lv_aload_n hx hb d_ST_address_0 rfl (lv_at hl 0 rfl) ?_
  refine lv_iload_n hx hb d_ST_address_1 rfl (lv_at hl 1 rfl) ?_
  refine cx_cI (ws2 := fun _ => sW T q n ch mk) (cx_rV (q0 := 0) (ci := 3) (rest := []) (As := [.int (iI (z))]) hx hb hml hown hT hK hN hP hD hl.1 tw_341 k_ST_zone (c_ST_zone l D T s.heap.size q n ch mk hn hC z (by omega)) ⟨by decide, by decide⟩ ⟨rfl, rfl⟩ [0, 1] (by decide) rfl rfl rfl rfl rfl (Nat.le_of_ble_eq_true rfl) ⟨Nat.zero_le _, Nat.zero_le _⟩ d_ST_address_2) hP hD hS hA [0, 1] [] [0, 1] rfl (wr := []) rfl (by decide) (by decide) (fun _ => rfl) (by decide) (fun r u_ H locs hq2 hP hD hS => ?_)
  subst hq2
  refine cx_bipush hx hb d_ST_address_5 rfl ?_
  refine cx_idiv hx hb d_ST_address_7 (by omega) (by omega) ?_
  refine lv_aload_n hx hb d_ST_address_8 rfl (lv_at hl 0 rfl) ?_
  refine lv_iload_n hx hb d_ST_address_9 rfl (lv_at hl 1 rfl) ?_
  refine cx_iconst hx hb d_ST_address_10 ?_
  refine cx_iadd hx hb d_ST_address_11 ?_
  refine cx_cI (ws2 := fun _ => sW T q n ch mk) (cx_rV (q0 := 0) (ci := 3) (rest := [.int (iI ((zn (ch (z))) / 16))]) (As := [.int (iI (z + 2))]) hx hb hml hown hT hK hN hP hD hl.1 tw_341 k_ST_zone (c_ST_zone l D T H.size q n ch mk hn hC (z + 2) (by omega)) ⟨by decide, by decide⟩ ⟨rfl, rfl⟩ [0, 1] (by decide) rfl rfl rfl rfl rfl (Nat.le_of_ble_eq_true rfl) ⟨Nat.zero_le _, Nat.zero_le _⟩ d_ST_address_12) hP hD hS hA [0, 1] [] [0, 1] rfl (wr := []) rfl (by decide) (by decide) (fun _ => rfl) (by decide) (fun r u_ H locs hq12 hP hD hS => ?_)
  subst hq12
  refine cx_bipush hx hb d_ST_address_15 rfl ?_
  refine cx_idiv hx hb d_ST_address_17 (by omega) (by omega) ?_
  refine cx_iconst hx hb d_ST_address_18 ?_
  refine cx_imul hx hb d_ST_address_19 ?_
  refine cx_iadd hx hb d_ST_address_20 ?_
  refine lv_istore_n (lv' := [(2, .int (iI (((zn (ch (z))) / 16) + (((zn (ch (z + 2))) / 16) * 4)))), (0, .ref (q 1)), (1, .int (iI (z)))]) hx hb d_ST_address_21 rfl hl (by decide) rfl (fun ls hl => ?_)
  refine lv_iload_n hx hb d_ST_address_22 rfl (lv_at hl 0 rfl) ?_
  refine cx_sipush hx hb d_ST_address_23 rfl ?_
  refine cx_imul hx hb d_ST_address_26 ?_
  refine lv_aload_n hx hb d_ST_address_27 rfl (lv_at hl 1 rfl) ?_
  refine lv_iload_n hx hb d_ST_address_28 rfl (lv_at hl 2 rfl) ?_
  refine cx_cI (ws2 := fun _ => sW T q n ch mk) (cx_rV (q0 := 0) (ci := 3) (rest := [.int (iI ((((zn (ch (z))) / 16) + (((zn (ch (z + 2))) / 16) * 4)) * 1000))]) (As := [.int (iI (z))]) hx hb hml hown hT hK hN hP hD hl.1 tw_345 k_ST_digit (c_ST_digit l D T H.size q n ch mk hn hC z (by omega)) ⟨by decide, by decide⟩ ⟨rfl, rfl⟩ [0, 1] (by decide) rfl rfl rfl rfl rfl (Nat.le_of_ble_eq_true rfl) ⟨Nat.zero_le _, Nat.zero_le _⟩ d_ST_address_29) hP hD hS hA [0, 1] [] [0, 1] rfl (wr := []) rfl (by decide) (by decide) (fun _ => rfl) (by decide) (fun r u_ H locs hq29 hP hD hS => ?_)
  subst hq29
  refine cx_bipush hx hb d_ST_address_32 rfl ?_
  refine cx_imul hx hb d_ST_address_34 ?_
  refine cx_iadd hx hb d_ST_address_35 ?_
  refine lv_aload_n hx hb d_ST_address_36 rfl (lv_at hl 1 rfl) ?_
  refine lv_iload_n hx hb d_ST_address_37 rfl (lv_at hl 2 rfl) ?_
  refine cx_iconst hx hb d_ST_address_38 ?_
  refine cx_iadd hx hb d_ST_address_39 ?_
  refine cx_cI (ws2 := fun _ => sW T q n ch mk) (cx_rV (q0 := 0) (ci := 3) (rest := [.int (iI (((((zn (ch (z))) / 16) + (((zn (ch (z + 2))) / 16) * 4)) * 1000) + ((vl (ch (z))) * 100)))]) (As := [.int (iI (z + 1))]) hx hb hml hown hT hK hN hP hD hl.1 tw_345 k_ST_digit (c_ST_digit l D T H.size q n ch mk hn hC (z + 1) (by omega)) ⟨by decide, by decide⟩ ⟨rfl, rfl⟩ [0, 1] (by decide) rfl rfl rfl rfl rfl (Nat.le_of_ble_eq_true rfl) ⟨Nat.zero_le _, Nat.zero_le _⟩ d_ST_address_40) hP hD hS hA [0, 1] [] [0, 1] rfl (wr := []) rfl (by decide) (by decide) (fun _ => rfl) (by decide) (fun r u_ H locs hq40 hP hD hS => ?_)
  subst hq40
  refine cx_bipush hx hb d_ST_address_43 rfl ?_
  refine cx_imul hx hb d_ST_address_45 ?_
  refine cx_iadd hx hb d_ST_address_46 ?_
  refine lv_aload_n hx hb d_ST_address_47 rfl (lv_at hl 1 rfl) ?_
  refine lv_iload_n hx hb d_ST_address_48 rfl (lv_at hl 2 rfl) ?_
  refine cx_iconst hx hb d_ST_address_49 ?_
  refine cx_iadd hx hb d_ST_address_50 ?_
  refine cx_cI (ws2 := fun _ => sW T q n ch mk) (cx_rV (q0 := 0) (ci := 3) (rest := [.int (iI ((((((zn (ch (z))) / 16) + (((zn (ch (z + 2))) / 16) * 4)) * 1000) + ((vl (ch (z))) * 100)) + ((vl (ch (z + 1))) * 10)))]) (As := [.int (iI (z + 2))]) hx hb hml hown hT hK hN hP hD hl.1 tw_345 k_ST_digit (c_ST_digit l D T H.size q n ch mk hn hC (z + 2) (by omega)) ⟨by decide, by decide⟩ ⟨rfl, rfl⟩ [0, 1] (by decide) rfl rfl rfl rfl rfl (Nat.le_of_ble_eq_true rfl) ⟨Nat.zero_le _, Nat.zero_le _⟩ d_ST_address_51) hP hD hS hA [0, 1] [] [0, 1] rfl (wr := []) rfl (by decide) (by decide) (fun _ => rfl) (by decide) (fun r u_ H locs hq51 hP hD hS => ?_)
  subst hq51
  refine cx_iadd hx hb d_ST_address_54 ?_
  exact hret () (by rw [adr_eq]) hP hD hS d_ST_address_55

set_option maxHeartbeats 4000000 in
set_option maxRecDepth 100000 in
theorem c_ST_writeAddress (l : Launch) (D : va_G) (T : Nat → ClassId) (sz : Nat) (q : Nat → Nat) (n : Nat) (ch mk : Int → Int) (hn : 400 ≤ n ∧ n ≤ 2000) (hC : okC ch mk) (z : Int) (h_z : 2 ≤ z ∧ z < n) (x : Int) (h_x : 0 ≤ x ∧ x < 16000) : MV l y_ST_writeAddress (wY y_ST_writeAddress b_ST_writeAddress 4 none) (rmK 1) D vwCl (tyL T) nwL sz [.ref (q 1), .int (iI (z)), .int (iI (x))] (sW T q n ch mk) (fun (_ : Unit) => True) (fun _ => sW T q n (wad ch z x) mk) := by
  refine cx_inV (by decide) rfl (Nat.le_of_ble_eq_true rfl) ?_
  intro p e s m below meth cd ls A Q hx hb hml hT hown hret hP hK hD hN hS hA hl
  have hown : s.vm.findClass R_ST = some m.cls := hown
  have hl : lv_has ls 4 [(0, .ref (q 1)), (1, .int (iI (z))), (2, .int (iI (x)))] := hl
  have h1 := wrt_in (v := x / 100 % 10) (by omega)
  have h2 := wrt_in (v := x / 10 % 10) (by omega)
  have h3 := wrt_in (v := x % 10) (by omega)
  refine lv_iload_n hx hb d_ST_writeAddress_0 rfl (lv_at hl 2 rfl) ?_
  refine cx_sipush hx hb d_ST_writeAddress_1 rfl ?_
  refine cx_idiv hx hb d_ST_writeAddress_4 (by omega) (by omega) ?_
  refine lv_istore_n (lv' := [(3, .int (iI (x / 1000))), (0, .ref (q 1)), (1, .int (iI (z))), (2, .int (iI (x)))]) hx hb d_ST_writeAddress_5 rfl hl (by decide) rfl (fun ls hl => ?_)
  refine lv_aload_n hx hb d_ST_writeAddress_6 rfl (lv_at hl 1 rfl) ?_
  refine lv_iload_n hx hb d_ST_writeAddress_7 rfl (lv_at hl 2 rfl) ?_
  refine cx_iconst hx hb d_ST_writeAddress_8 ?_
  refine cx_isub hx hb d_ST_writeAddress_9 ?_
  refine lv_iload_n hx hb d_ST_writeAddress_10 rfl (lv_at hl 3 rfl) ?_
  refine cx_bipush hx hb d_ST_writeAddress_11 rfl ?_
  refine cx_idiv hx hb d_ST_writeAddress_13 (by omega) (by omega) ?_
  refine cx_bipush hx hb d_ST_writeAddress_14 rfl ?_
  refine cx_irem hx hb d_ST_writeAddress_16 (by omega) (by omega) ?_
  refine cx_cI (ws2 := fun _ => sW T q n ch mk) (cx_rN (rest := [.int (iI (z - 2)), .ref (q 1)]) (As := [.int (iI ((x / 100) % 10))]) hx hb hml hown hT hK hN hP hD hl.1 (show (Jvm.Cond.methodLinkNest "CharMachine$Store" (55 : Nat) ({ cls := "CharMachine", name := "written", desc := "(I)I" } : Jvm.MethodName) "CharMachine") ∈ nwL by decide +kernel) k_CM_written (c_CM_written l D T s.heap.size ((x / 100) % 10) (by omega)) ⟨by decide, by decide⟩ ⟨rfl, rfl⟩ [] (by decide) rfl rfl rfl (Nat.le_of_ble_eq_true rfl) ⟨Nat.zero_le _, Nat.zero_le _⟩ d_ST_writeAddress_17) hP hD hS hA [] [0, 1] [0, 1] rfl (wr := [(q 1, .inr (3, [.ref (q 2)])), (q 2, .inl (T 0, n, .inl (fun jj : Nat => (ceF ch mk) (jj : Int))))]) rfl (by decide) (by decide) (fun _ => rfl) (by decide) (fun r u_ H locs hq17 hP hD hS => ?_)
  subst hq17
  refine lv_iload_n hx hb d_ST_writeAddress_20 rfl (lv_at hl 0 rfl) ?_
  refine cx_iconst hx hb d_ST_writeAddress_21 ?_
  refine cx_irem hx hb d_ST_writeAddress_22 (by omega) (by omega) ?_
  refine cx_bipush hx hb d_ST_writeAddress_23 rfl ?_
  refine cx_imul hx hb d_ST_writeAddress_25 ?_
  refine lv_ior hx hb d_ST_writeAddress_26 ?_
  refine cx_eq (bt_zd (by omega) (by omega)) ?_
  refine cx_cV (ws2 := fun _ => sW T q n (fu ch (z - 2) (wrt (x / 100 % 10) + 16 * (x / 1000 % 4))) mk) (cx_rV (q0 := 0) (ci := 3) (rest := []) (As := [.int (iI (z - 2)), .int (iI (wrt (x / 100 % 10) + 16 * (x / 1000 % 4)))]) hx hb hml hown hT hK hN hP hD hl.1 tw_398 k_ST_write (c_ST_write l D T H.size q n ch mk hn hC (z - 2) (by omega) (wrt (x / 100 % 10) + 16 * (x / 1000 % 4)) (by omega)) ⟨by decide, by decide⟩ ⟨rfl, rfl⟩ [0, 1] (by decide) rfl rfl rfl rfl rfl (Nat.le_of_ble_eq_true rfl) ⟨Nat.zero_le _, Nat.zero_le _⟩ d_ST_writeAddress_27) hP hD hS hA [0, 1] [] [0, 1] rfl (wr := []) rfl (by decide) (by decide) (fun _ => rfl) (by decide) (fun u_ H locs hq27 hP hD hS => ?_)
  have hC : okC (fu ch (z - 2) (wrt (x / 100 % 10) + 16 * (x / 1000 % 4))) mk := okC_fu hC (by omega)
  refine lv_aload_n hx hb d_ST_writeAddress_30 rfl (lv_at hl 1 rfl) ?_
  refine lv_iload_n hx hb d_ST_writeAddress_31 rfl (lv_at hl 2 rfl) ?_
  refine cx_iconst hx hb d_ST_writeAddress_32 ?_
  refine cx_isub hx hb d_ST_writeAddress_33 ?_
  refine lv_iload_n hx hb d_ST_writeAddress_34 rfl (lv_at hl 3 rfl) ?_
  refine cx_bipush hx hb d_ST_writeAddress_35 rfl ?_
  refine cx_idiv hx hb d_ST_writeAddress_37 (by omega) (by omega) ?_
  refine cx_bipush hx hb d_ST_writeAddress_38 rfl ?_
  refine cx_irem hx hb d_ST_writeAddress_40 (by omega) (by omega) ?_
  refine cx_cI (ws2 := fun _ => sW T q n (fu ch (z - 2) (wrt (x / 100 % 10) + 16 * (x / 1000 % 4))) mk) (cx_rN (rest := [.int (iI (z - 1)), .ref (q 1)]) (As := [.int (iI ((x / 10) % 10))]) hx hb hml hown hT hK hN hP hD hl.1 (show (Jvm.Cond.methodLinkNest "CharMachine$Store" (55 : Nat) ({ cls := "CharMachine", name := "written", desc := "(I)I" } : Jvm.MethodName) "CharMachine") ∈ nwL by decide +kernel) k_CM_written (c_CM_written l D T H.size ((x / 10) % 10) (by omega)) ⟨by decide, by decide⟩ ⟨rfl, rfl⟩ [] (by decide) rfl rfl rfl (Nat.le_of_ble_eq_true rfl) ⟨Nat.zero_le _, Nat.zero_le _⟩ d_ST_writeAddress_41) hP hD hS hA [] [0, 1] [0, 1] rfl (wr := [(q 1, .inr (3, [.ref (q 2)])), (q 2, .inl (T 0, n, .inl (fun jj : Nat => (ceF (fu ch (z - 2) (wrt (x / 100 % 10) + 16 * (x / 1000 % 4))) mk) (jj : Int))))]) rfl (by decide) (by decide) (fun _ => rfl) (by decide) (fun r u_ H locs hq41 hP hD hS => ?_)
  subst hq41
  refine cx_cV (ws2 := fun _ => sW T q n (fu (fu ch (z - 2) (wrt (x / 100 % 10) + 16 * (x / 1000 % 4))) (z - 1) (wrt ((x / 10) % 10))) mk) (cx_rV (q0 := 0) (ci := 3) (rest := []) (As := [.int (iI (z - 1)), .int (iI (wrt ((x / 10) % 10)))]) hx hb hml hown hT hK hN hP hD hl.1 tw_398 k_ST_write (c_ST_write l D T H.size q n (fu ch (z - 2) (wrt (x / 100 % 10) + 16 * (x / 1000 % 4))) mk hn hC (z - 1) (by omega) (wrt ((x / 10) % 10)) (by omega)) ⟨by decide, by decide⟩ ⟨rfl, rfl⟩ [0, 1] (by decide) rfl rfl rfl rfl rfl (Nat.le_of_ble_eq_true rfl) ⟨Nat.zero_le _, Nat.zero_le _⟩ d_ST_writeAddress_44) hP hD hS hA [0, 1] [] [0, 1] rfl (wr := []) rfl (by decide) (by decide) (fun _ => rfl) (by decide) (fun u_ H locs hq44 hP hD hS => ?_)
  have hC : okC (fu (fu ch (z - 2) (wrt (x / 100 % 10) + 16 * (x / 1000 % 4))) (z - 1) (wrt ((x / 10) % 10))) mk := okC_fu hC (by omega)
  refine lv_aload_n hx hb d_ST_writeAddress_47 rfl (lv_at hl 1 rfl) ?_
  refine lv_iload_n hx hb d_ST_writeAddress_48 rfl (lv_at hl 2 rfl) ?_
  refine lv_iload_n hx hb d_ST_writeAddress_49 rfl (lv_at hl 3 rfl) ?_
  refine cx_bipush hx hb d_ST_writeAddress_50 rfl ?_
  refine cx_irem hx hb d_ST_writeAddress_52 (by omega) (by omega) ?_
  refine cx_cI (ws2 := fun _ => sW T q n (fu (fu ch (z - 2) (wrt (x / 100 % 10) + 16 * (x / 1000 % 4))) (z - 1) (wrt ((x / 10) % 10))) mk) (cx_rN (rest := [.int (iI (z)), .ref (q 1)]) (As := [.int (iI (x % 10))]) hx hb hml hown hT hK hN hP hD hl.1 (show (Jvm.Cond.methodLinkNest "CharMachine$Store" (55 : Nat) ({ cls := "CharMachine", name := "written", desc := "(I)I" } : Jvm.MethodName) "CharMachine") ∈ nwL by decide +kernel) k_CM_written (c_CM_written l D T H.size (x % 10) (by omega)) ⟨by decide, by decide⟩ ⟨rfl, rfl⟩ [] (by decide) rfl rfl rfl (Nat.le_of_ble_eq_true rfl) ⟨Nat.zero_le _, Nat.zero_le _⟩ d_ST_writeAddress_53) hP hD hS hA [] [0, 1] [0, 1] rfl (wr := [(q 1, .inr (3, [.ref (q 2)])), (q 2, .inl (T 0, n, .inl (fun jj : Nat => (ceF (fu (fu ch (z - 2) (wrt (x / 100 % 10) + 16 * (x / 1000 % 4))) (z - 1) (wrt ((x / 10) % 10))) mk) (jj : Int))))]) rfl (by decide) (by decide) (fun _ => rfl) (by decide) (fun r u_ H locs hq53 hP hD hS => ?_)
  subst hq53
  refine lv_iload_n hx hb d_ST_writeAddress_56 rfl (lv_at hl 0 rfl) ?_
  refine cx_iconst hx hb d_ST_writeAddress_57 ?_
  refine cx_idiv hx hb d_ST_writeAddress_58 (by omega) (by omega) ?_
  refine cx_bipush hx hb d_ST_writeAddress_59 rfl ?_
  refine cx_imul hx hb d_ST_writeAddress_61 ?_
  refine lv_ior hx hb d_ST_writeAddress_62 ?_
  refine cx_eq (bt_zd (by omega) (by omega)) ?_
  refine cx_cV (ws2 := fun _ => sW T q n (fu (fu (fu ch (z - 2) (wrt (x / 100 % 10) + 16 * (x / 1000 % 4))) (z - 1) (wrt ((x / 10) % 10))) (z) (wrt (x % 10) + 16 * (x / 1000 / 4))) mk) (cx_rV (q0 := 0) (ci := 3) (rest := []) (As := [.int (iI (z)), .int (iI (wrt (x % 10) + 16 * (x / 1000 / 4)))]) hx hb hml hown hT hK hN hP hD hl.1 tw_398 k_ST_write (c_ST_write l D T H.size q n (fu (fu ch (z - 2) (wrt (x / 100 % 10) + 16 * (x / 1000 % 4))) (z - 1) (wrt ((x / 10) % 10))) mk hn hC z (by omega) (wrt (x % 10) + 16 * (x / 1000 / 4)) (by omega)) ⟨by decide, by decide⟩ ⟨rfl, rfl⟩ [0, 1] (by decide) rfl rfl rfl rfl rfl (Nat.le_of_ble_eq_true rfl) ⟨Nat.zero_le _, Nat.zero_le _⟩ d_ST_writeAddress_63) hP hD hS hA [0, 1] [] [0, 1] rfl (wr := []) rfl (by decide) (by decide) (fun _ => rfl) (by decide) (fun u_ H locs hq63 hP hD hS => ?_)
  have hC : okC (fu (fu (fu ch (z - 2) (wrt (x / 100 % 10) + 16 * (x / 1000 % 4))) (z - 1) (wrt ((x / 10) % 10))) (z) (wrt (x % 10) + 16 * (x / 1000 / 4))) mk := okC_fu hC (by omega)
  exact hret () trivial hP hD hS d_ST_writeAddress_66

set_option maxHeartbeats 4000000 in
set_option maxRecDepth 100000 in
theorem c_ST_markCount (l : Launch) (D : va_G) (T : Nat → ClassId) (sz : Nat) (q : Nat → Nat) (n : Nat) (ch mk : Int → Int) (hn : 400 ≤ n ∧ n ≤ 2000) (hC : okC ch mk) : MI l y_ST_markCount (wY y_ST_markCount b_ST_markCount 3 (some .int)) (rmK 1) D vwCl (tyL T) nwL sz [.ref (q 1)] (sW T q n ch mk) (fun r (_ : Unit) => r = iI (cnt mk n)) (fun _ => sW T q n ch mk) := by
  refine cx_inI (by decide) rfl (Nat.le_of_ble_eq_true rfl) ?_
  intro p e s m below meth cd ls A Q hx hb hml hT hown hret hP hK hD hN hS hA hl
  have hown : s.vm.findClass R_ST = some m.cls := hown
  have hl : lv_has ls 3 [(0, .ref (q 1))] := hl
  refine cx_iconst hx hb d_ST_markCount_0 ?_
  refine lv_istore_n (lv' := [(1, .int (iI (0))), (0, .ref (q 1))]) hx hb d_ST_markCount_1 rfl hl (by decide) rfl (fun ls hl => ?_)
  refine cx_iconst hx hb d_ST_markCount_2 ?_
  refine lv_istore_n (lv' := [(2, .int (iI (0))), (1, .int (iI (0))), (0, .ref (q 1))]) hx hb d_ST_markCount_3 rfl hl (by decide) rfl (fun ls hl => ?_)
  have L1 : ∀ (k_ : Nat) (j : Int) (v : Int) (H : Heap) (locs : List Loc) (ls : Array Slot), (0 ≤ j ∧ j ≤ n ∧ n - j < k_) → (v = cnt mk j.toNat) → va_P D vwCl (sW T q n ch mk) H → va_D A (sW T q n ch mk) → va_S A s.heap H locs → lv_has ls 3 [(2, .int (iI (j))), (1, .int (iI (v))), (0, .ref (q 1))] → W p l e (rmK 1) s m ([.ref (q 1)] : List Value).toArray below meth cd H locs 0 0 Q (F0 m 4 ls []) := by
    intro k_
    induction k_ with
    | zero => intro j v H locs ls hj hf _ _ _ _; exact absurd hj (by omega)
    | succ k_ ih1 =>
      intro j v H locs ls hj hf hP hD hS hl
      refine lv_iload_n hx hb d_ST_markCount_4 rfl (lv_at hl 0 rfl) ?_
      refine lv_aload_n hx hb d_ST_markCount_5 rfl (lv_at hl 2 rfl) ?_
      refine va_get (D := D) (ci := 3) (v := .ref (q 2)) (C := R_ST) (T := T_ST) (N := 1) hx hb hT lays_ST hown hK hP 0 rfl rfl 0 (by decide) (hT _ tw_31) (fun _ h9 => h9) rfl d_ST_markCount_6 ?_
      refine va_alen (v := iI ((n : Nat) : Int)) hx hb hK hP 1 0 rfl rfl (iI_nI n).symm d_ST_markCount_9 ?_
      refine cx_icmp_ge (tgt := 30) hx hb d_ST_markCount_10 rfl (by omega) (by omega) (fun h10 => ?_) (fun h10 => ?_)
      · refine lv_iload_n hx hb d_ST_markCount_30 rfl (lv_at hl 1 rfl) ?_
        exact hret () (by rw [hf, show j.toNat = n by omega]) hP hD hS d_ST_markCount_31
      · refine lv_aload_n hx hb d_ST_markCount_13 rfl (lv_at hl 2 rfl) ?_
        refine lv_iload_n hx hb d_ST_markCount_14 rfl (lv_at hl 0 rfl) ?_
        refine cx_cI (ws2 := fun _ => sW T q n ch mk) (cx_rV (q0 := 0) (ci := 3) (rest := []) (As := [.int (iI (j))]) hx hb hml hown hT hK hN hP hD hl.1 tw_192 k_ST_hasMark (c_ST_hasMark l D T H.size q n ch mk hn hC j (by omega)) ⟨by decide, by decide⟩ ⟨rfl, rfl⟩ [0, 1] (by decide) rfl rfl rfl rfl rfl (Nat.le_of_ble_eq_true rfl) ⟨Nat.zero_le _, Nat.zero_le _⟩ d_ST_markCount_15) hP hD hS hA [0, 1] [] [0, 1] rfl (wr := []) rfl (by decide) (by decide) (fun _ => rfl) (by decide) (fun r u_ H locs hq15 hP hD hS => ?_)
        rcases hq15 with ⟨rfl, h15⟩ | ⟨rfl, h15⟩
        · refine cx_if_eq (tgt := 24) hx hb d_ST_markCount_18 rfl (by omega) (fun h0 => absurd h0 (by decide)) (fun _ => ?_)
          refine cx_iinc (k := 1) (lv' := [(1, .int (iI (v + 1))), (2, .int (iI (j))), (0, .ref (q 1))]) hx hb d_ST_markCount_21 hl rfl (by decide) rfl (fun ls hl => ?_)
          refine cx_iinc (k := 1) (lv' := [(2, .int (iI (j + 1))), (1, .int (iI (v + 1))), (0, .ref (q 1))]) hx hb d_ST_markCount_24 hl rfl (by decide) rfl (fun ls hl => ?_)
          refine lv_goto (tgt := 4) hx hb d_ST_markCount_27 rfl ?_
          exact ih1 (j + 1) (v + 1) _ _ _ (by omega) (by rw [cnt_step (by omega), hf, h15]; first | done | simp) hP hD hS (lv_sub hl [0, 1, 2] rfl)
        · refine cx_if_eq (tgt := 24) hx hb d_ST_markCount_18 rfl (by omega) (fun _ => ?_) (fun h0 => absurd h0 (by decide))
          refine cx_iinc (k := 0) (lv' := [(2, .int (iI (j + 1))), (1, .int (iI (v))), (0, .ref (q 1))]) hx hb d_ST_markCount_24 hl rfl (by decide) rfl (fun ls hl => ?_)
          refine lv_goto (tgt := 4) hx hb d_ST_markCount_27 rfl ?_
          exact ih1 (j + 1) v _ _ _ (by omega) (by rw [cnt_step (by omega), hf, h15]; first | done | simp) hP hD hS (lv_sub hl [0, 1, 2] rfl)
  exact L1 2001 0 0 _ _ _ (by omega) rfl hP hD hS (lv_sub hl [0, 1, 2] rfl)

set_option maxHeartbeats 4000000 in
set_option maxRecDepth 100000 in
theorem c_ST_copySpan (l : Launch) (D : va_G) (T : Nat → ClassId) (sz : Nat) (q : Nat → Nat) (n : Nat) (ch mk : Int → Int) (hn : 400 ≤ n ∧ n ≤ 2000) (a b k : Int) (h_a : 0 ≤ a - k + 1 ∧ a < n) (h_b : 0 ≤ b - k + 1 ∧ b < n) (h_k : 1 ≤ k ∧ k ≤ 2000) : MV l y_ST_copySpan (wY y_ST_copySpan b_ST_copySpan 4 none) (rmK 1) D vwCl (tyL T) nwL sz [.ref (q 1), .int (iI (a)), .int (iI (b)), .int (iI (k))] (sW T q n ch mk) (fun (_ : Unit) => True) (fun _ => sW T q n (cpy ch (a - k + 1) (b - k + 1) k) (cpy mk (a - k + 1) (b - k + 1) k)) := by
  refine cx_inV (by decide) rfl (Nat.le_of_ble_eq_true rfl) ?_
  intro p e s m below meth cd ls A Q hx hb hml hT hown hret hP hK hD hN hS hA hl
  have hown : s.vm.findClass R_ST = some m.cls := hown
  have hl : lv_has ls 4 [(0, .ref (q 1)), (1, .int (iI (a))), (2, .int (iI (b))), (3, .int (iI (k)))] := hl
  refine lv_aload_n hx hb d_ST_copySpan_0 rfl (lv_at hl 0 rfl) ?_
  refine va_get (D := D) (ci := 3) (v := .ref (q 2)) (C := R_ST) (T := T_ST) (N := 1) hx hb hT lays_ST hown hK hP 0 rfl rfl 0 (by decide) (hT _ tw_31) (fun _ h9 => h9) rfl d_ST_copySpan_1 ?_
  refine lv_iload_n hx hb d_ST_copySpan_4 rfl (lv_at hl 1 rfl) ?_
  refine lv_iload_n hx hb d_ST_copySpan_5 rfl (lv_at hl 3 rfl) ?_
  refine cx_isub hx hb d_ST_copySpan_6 ?_
  refine cx_iconst hx hb d_ST_copySpan_7 ?_
  refine cx_iadd hx hb d_ST_copySpan_8 ?_
  refine lv_aload_n hx hb d_ST_copySpan_9 rfl (lv_at hl 0 rfl) ?_
  refine va_get (D := D) (ci := 3) (v := .ref (q 2)) (C := R_ST) (T := T_ST) (N := 1) hx hb hT lays_ST hown hK hP 0 rfl rfl 0 (by decide) (hT _ tw_31) (fun _ h9 => h9) rfl d_ST_copySpan_10 ?_
  refine lv_iload_n hx hb d_ST_copySpan_13 rfl (lv_at hl 2 rfl) ?_
  refine lv_iload_n hx hb d_ST_copySpan_14 rfl (lv_at hl 3 rfl) ?_
  refine cx_isub hx hb d_ST_copySpan_15 ?_
  refine cx_iconst hx hb d_ST_copySpan_16 ?_
  refine cx_iadd hx hb d_ST_copySpan_17 ?_
  refine lv_iload_n hx hb d_ST_copySpan_18 rfl (lv_at hl 3 rfl) ?_
  refine cx_copy hx hb (hml.trans hl.1.symm) hown hT tw_440 hK hP hD hS 1 1 0 0 rfl rfl rfl rfl (by omega) (by omega) (by omega) (by omega) (by omega) (g2 := ceF (cpy ch (a - k + 1) (b - k + 1) k) (cpy mk (a - k + 1) (b - k + 1) k)) (ceF_cpy (by omega) (by omega) (by omega)) (by decide) (Nat.le_of_ble_eq_true rfl) d_ST_copySpan_19 (fun H locs hP hD hS => ?_)
  have hP : va_P D vwCl (sW T q n (cpy ch (a - k + 1) (b - k + 1) k) (cpy mk (a - k + 1) (b - k + 1) k)) H := hP
  have hD : va_D A (sW T q n (cpy ch (a - k + 1) (b - k + 1) k) (cpy mk (a - k + 1) (b - k + 1) k)) := hD
  exact hret () trivial hP hD hS d_ST_copySpan_22
