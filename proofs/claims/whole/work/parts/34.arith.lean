/-! Arithmetic: digits that were read, and the field at u -/
abbrev arW (T : Nat → ClassId) (q : Nat → Nat) (n : Nat) (d ch mk : Int → Int) : va_W := [(q 10, .inr (0, [.ref (q 1), .ref (q 11)])), (q 11, .inl (T 0, n, .inl (fun j : Nat => iF d (j : Int)))), (q 1, .inr (3, [.ref (q 2)])), (q 2, .inl (T 0, n, .inl (fun j : Nat => ceF ch mk (j : Int))))]
/-- the digits that are read, units first: those of the part, then zeros -/
def rdg (ch : Int → Int) (u part : Int) : Int → Int := fun k => if k < part then vl (ch (u - k)) else 0
theorem rdg_in {ch mk : Int → Int} (hC : okC ch mk) (u part k : Int) : 0 ≤ rdg ch u part k ∧ rdg ch u part k < 10 := by
  unfold rdg
  split
  · exact vl_in (hC.1 _)
  · omega
theorem okC_spn {ch mk : Int → Int} {u k : Int} {F : Int → Int} (h : okC ch mk) (hF : ∀ i, 0 ≤ i → i < k → 0 ≤ F i ∧ F i < 64) : okC (spn ch u k F) mk := ⟨fun j => by
  unfold spn
  split
  · exact hF _ (by omega) (by omega)
  · exact h.1 j, h.2⟩
/-- carries of a sum, units first -/
def car (x y : Int → Int) : Nat → Int
  | 0 => 0
  | k + 1 => (y k + x k + car x y k) / 10
theorem car_step {x y : Int → Int} {j : Int} (h : 0 ≤ j) : car x y (j + 1).toNat = (y j + x j + car x y j.toNat) / 10 := by
  rw [show (j + 1).toNat = j.toNat + 1 by omega, car, Int.toNat_of_nonneg h]
def adF (ch d : Int → Int) (u : Int) : Int → Int := fun k => wrt ((vl (ch (u - k)) + d k + car d (fun i => vl (ch (u - i))) k.toNat) % 10) + (if k = 0 then zn (ch u) else 0)
/-- what is left at a place of a difference, ahead of the borrow from the next; g: from which side -/
def sbR (g : Int) (x y : Int → Int) (v k : Int) : Int := (if g = 0 then y k - x k else x k - y k) - v
def bor (g : Int) (x y : Int → Int) : Nat → Int
  | 0 => 0
  | k + 1 => if sbR g x y (bor g x y k) k < 0 then 1 else 0
theorem bor_step {g : Int} {x y : Int → Int} {j : Int} (h : 0 ≤ j) : bor g x y (j + 1).toNat = if sbR g x y (bor g x y j.toNat) j < 0 then 1 else 0 := by
  rw [show (j + 1).toNat = j.toNat + 1 by omega, bor, Int.toNat_of_nonneg h]
def sbF (ch d : Int → Int) (u g : Int) : Int → Int := fun k => wrt (sbR g d (fun i => vl (ch (u - i))) (bor g d (fun i => vl (ch (u - i))) k.toNat) k + 10 * bor g d (fun i => vl (ch (u - i))) (k + 1).toNat)
/-- x is more than y, by the leftmost place that differs -/
def gtr (x y : Int → Int) : Nat → Int
  | 0 => 0
  | k + 1 => if x k = y k then gtr x y k else if y k < x k then 1 else 0
theorem gtr_step {x y : Int → Int} {j : Int} (h : 0 ≤ j) : gtr x y (j + 1).toNat = if x j = y j then gtr x y j.toNat else if y j < x j then 1 else 0 := by
  rw [show (j + 1).toNat = j.toNat + 1 by omega, gtr, Int.toNat_of_nonneg h]
theorem bt_zn {d c : Int} (hd : 0 ≤ d ∧ d < 16) (hc : 0 ≤ c ∧ c < 64) : iI d ||| iI (zn c) = iI (d + zn c) := by
  unfold zn
  rw [Int.mul_comm]; exact bt_dz hd (by omega)
theorem bt_z0 {d : Int} (hd : 0 ≤ d ∧ d < 16) : iI d ||| iI 0 = iI (d + 0) := bt_dz (z := 0) hd (by omega)
set_option maxHeartbeats 4000000 in
set_option maxRecDepth 100000 in
theorem c_AR_readDigits (l : Launch) (D : va_G) (T : Nat → ClassId) (sz : Nat) (q : Nat → Nat) (n : Nat) (d ch mk : Int → Int) (hn : 400 ≤ n ∧ n ≤ 2000) (hC : okC ch mk) (u part k : Int) (h_u : 0 ≤ u ∧ u < n) (h_p : part ≤ u + 1) (h_p0 : -2147483648 ≤ part) (h_k : 0 ≤ k ∧ k ≤ n) : MV l y_AR_readDigits (wY y_AR_readDigits b_AR_readDigits 5 none) (rmK 1) D vwCl (tyL T) nwL sz [.ref (q 10), .int (iI (u)), .int (iI (part)), .int (iI (k))] (arW T q n d ch mk) (fun (_ : Unit) => True) (fun _ => arW T q n (spa d 0 k (rdg ch u part)) ch mk) := by
  refine cx_inV (by decide) rfl (Nat.le_of_ble_eq_true rfl) ?_
  intro p e s m below meth cd ls A Q hx hb hml hT hown hret hP hK hD hN hS hA hl
  have hown : s.vm.findClass R_AR = some m.cls := hown
  have hl : lv_has ls 5 [(0, .ref (q 10)), (1, .int (iI (u))), (2, .int (iI (part))), (3, .int (iI (k)))] := hl
  refine cx_iconst hx hb d_AR_readDigits_0 ?_
  refine lv_istore (lv' := [(4, .int (iI (0))), (0, .ref (q 10)), (1, .int (iI (u))), (2, .int (iI (part))), (3, .int (iI (k)))]) hx hb d_AR_readDigits_1 hl (by decide) rfl (fun ls hl => ?_)
  have L1 : ∀ (k_ : Nat) (j : Int) (H : Heap) (locs : List Loc) (ls : Array Slot), (0 ≤ j ∧ j ≤ k ∧ k - j < k_) → va_P D vwCl (arW T q n (spa d 0 j (rdg ch u part)) ch mk) H → va_D A (arW T q n (spa d 0 j (rdg ch u part)) ch mk) → va_S A s.heap H locs → lv_has ls 5 [(4, .int (iI (j))), (0, .ref (q 10)), (1, .int (iI (u))), (2, .int (iI (part))), (3, .int (iI (k)))] → W p l e (rmK 1) s m ([.ref (q 10), .int (iI (u)), .int (iI (part)), .int (iI (k))] : List Value).toArray below meth cd H locs 0 0 Q (F0 m 3 ls []) := by
    intro k_
    induction k_ with
    | zero => intro j H locs ls hj _ _ _ _; exact absurd hj (by omega)
    | succ k_ ih1 =>
      intro j H locs ls hj hP hD hS hl
      refine lv_iload hx hb d_AR_readDigits_3 (lv_at hl 0 rfl) ?_
      refine lv_iload_n hx hb d_AR_readDigits_5 rfl (lv_at hl 4 rfl) ?_
      refine cx_icmp_ge (tgt := 43) hx hb d_AR_readDigits_6 rfl (by omega) (by omega) (fun h6 => ?_) (fun h6 => ?_)
      · obtain rfl : j = k := by omega
        exact hret () trivial hP hD hS d_AR_readDigits_43
      · refine lv_aload_n hx hb d_AR_readDigits_9 rfl (lv_at hl 1 rfl) ?_
        refine va_get (D := D) (ci := 0) (v := .ref (q 11)) (C := R_AR) (T := T_AR) (N := 2) hx hb hT lays_AR hown hK hP 0 rfl rfl 1 (by decide) (hT _ tw_72) (fun _ h9 => h9) rfl d_AR_readDigits_10 ?_
        refine lv_iload hx hb d_AR_readDigits_13 (lv_at hl 0 rfl) ?_
        refine lv_iload hx hb d_AR_readDigits_15 (lv_at hl 0 rfl) ?_
        refine lv_iload_n hx hb d_AR_readDigits_17 rfl (lv_at hl 3 rfl) ?_
        refine cx_icmp_ge (tgt := 35) hx hb d_AR_readDigits_18 rfl (by omega) (by omega) (fun h18 => ?_) (fun h18 => ?_)
        · refine cx_iconst hx hb d_AR_readDigits_35 ?_
          refine cx_iast (g := iF (spa d 0 j (rdg ch u part))) (g' := iF (spa d 0 (j + 1) (rdg ch u part))) hx hb hK hP hD hS 1 0 rfl rfl (by omega) (by omega) (fun z => by rw [iF_put, spa_step (F := rdg ch u part) (k2 := j + 1) (by omega) (by omega) rfl (by unfold rdg; rw [if_neg (by omega)])]) d_AR_readDigits_36 (fun H locs hP hD hS => ?_)
          have hP : va_P D vwCl (arW T q n (spa d 0 (j + 1) (rdg ch u part)) ch mk) H := hP
          have hD : va_D A (arW T q n (spa d 0 (j + 1) (rdg ch u part)) ch mk) := hD
          refine cx_iinc (k := 0) (lv' := [(4, .int (iI (j + 1))), (0, .ref (q 10)), (1, .int (iI (u))), (2, .int (iI (part))), (3, .int (iI (k)))]) hx hb d_AR_readDigits_37 hl rfl (by decide) rfl (fun ls hl => ?_)
          refine lv_goto (tgt := 3) hx hb d_AR_readDigits_40 rfl ?_
          exact ih1 (j + 1) _ _ _ (by omega) hP hD hS (lv_sub hl [0, 1, 2, 3, 4] rfl)
        · refine lv_aload_n hx hb d_AR_readDigits_21 rfl (lv_at hl 1 rfl) ?_
          refine va_get (D := D) (ci := 0) (v := .ref (q 1)) (C := R_AR) (T := T_AR) (N := 2) hx hb hT lays_AR hown hK hP 0 rfl rfl 0 (by decide) (hT _ tw_71) (fun _ h9 => h9) rfl d_AR_readDigits_22 ?_
          refine lv_iload_n hx hb d_AR_readDigits_25 rfl (lv_at hl 2 rfl) ?_
          refine lv_iload hx hb d_AR_readDigits_26 (lv_at hl 0 rfl) ?_
          refine cx_isub hx hb d_AR_readDigits_28 ?_
          refine cx_cI (ws2 := fun _ => arW T q n (spa d 0 j (rdg ch u part)) ch mk) (cx_rV (q0 := 2) (ci := 3) (rest := [.int (iI (j)), .ref (q 11)]) (As := [.int (iI (u - j))]) hx hb hml hown hT hK hN hP hD hl.1 tw_378 k_ST_digit (c_ST_digit l D T H.size q n ch mk hn hC (u - j) (by omega)) ⟨by decide, by decide⟩ ⟨rfl, rfl⟩ [2, 3] (by decide) rfl rfl rfl rfl rfl (Nat.le_of_ble_eq_true rfl) ⟨Nat.zero_le _, Nat.zero_le _⟩ d_AR_readDigits_29) hP hD hS hA [2, 3] [0, 1] [0, 1, 2, 3] rfl (wr := [(q 10, .inr (0, [.ref (q 1), .ref (q 11)])), (q 11, .inl (T 0, n, .inl (fun jj : Nat => (iF (spa d 0 j (rdg ch u part))) (jj : Int))))]) rfl (by decide) (by decide) (fun _ => rfl) (by decide) (fun r u_ H locs hq29 hP hD hS => ?_)
          subst hq29
          refine lv_goto (tgt := 36) hx hb d_AR_readDigits_32 rfl ?_
          refine cx_iast (g := iF (spa d 0 j (rdg ch u part))) (g' := iF (spa d 0 (j + 1) (rdg ch u part))) hx hb hK hP hD hS 1 0 rfl rfl (by omega) (by omega) (fun z => by rw [iF_put, spa_step (F := rdg ch u part) (k2 := j + 1) (by omega) (by omega) rfl (by unfold rdg; rw [if_pos h18])]) d_AR_readDigits_36 (fun H locs hP hD hS => ?_)
          have hP : va_P D vwCl (arW T q n (spa d 0 (j + 1) (rdg ch u part)) ch mk) H := hP
          have hD : va_D A (arW T q n (spa d 0 (j + 1) (rdg ch u part)) ch mk) := hD
          refine cx_iinc (k := 0) (lv' := [(4, .int (iI (j + 1))), (0, .ref (q 10)), (1, .int (iI (u))), (2, .int (iI (part))), (3, .int (iI (k)))]) hx hb d_AR_readDigits_37 hl rfl (by decide) rfl (fun ls hl => ?_)
          refine lv_goto (tgt := 3) hx hb d_AR_readDigits_40 rfl ?_
          exact ih1 (j + 1) _ _ _ (by omega) hP hD hS (lv_sub hl [0, 1, 2, 3, 4] rfl)
  rw [← spa_0 d 0 (rdg ch u part)] at hP hD
  exact L1 2001 0 _ _ _ (by omega) hP hD hS (lv_sub hl [0, 1, 2, 3, 4] rfl)

set_option maxHeartbeats 4000000 in
set_option maxRecDepth 100000 in
theorem c_AR_replace (l : Launch) (D : va_G) (T : Nat → ClassId) (sz : Nat) (q : Nat → Nat) (n : Nat) (d ch mk : Int → Int) (hn : 400 ≤ n ∧ n ≤ 2000) (hC : okC ch mk) (u k : Int) (h_u : 0 ≤ u ∧ u < n) (h_k : 1 ≤ k ∧ k ≤ u + 1) (hd : ∀ i, 0 ≤ i → i < k → 0 ≤ d i ∧ d i < 10) : MV l y_AR_replace (wY y_AR_replace b_AR_replace 4 none) (rmK 1) D vwCl (tyL T) nwL sz [.ref (q 10), .int (iI (u)), .int (iI (k))] (arW T q n d ch mk) (fun (_ : Unit) => True) (fun _ => arW T q n d (spn ch u k (fun i => wrt (d i))) mk) := by
  refine cx_inV (by decide) rfl (Nat.le_of_ble_eq_true rfl) ?_
  intro p e s m below meth cd ls A Q hx hb hml hT hown hret hP hK hD hN hS hA hl
  have hown : s.vm.findClass R_AR = some m.cls := hown
  have hl : lv_has ls 4 [(0, .ref (q 10)), (1, .int (iI (u))), (2, .int (iI (k)))] := hl
  refine cx_iconst hx hb d_AR_replace_0 ?_
  refine lv_istore_n (lv' := [(3, .int (iI (0))), (0, .ref (q 10)), (1, .int (iI (u))), (2, .int (iI (k)))]) hx hb d_AR_replace_1 rfl hl (by decide) rfl (fun ls hl => ?_)
  have L1 : ∀ (k_ : Nat) (j : Int) (H : Heap) (locs : List Loc) (ls : Array Slot), (0 ≤ j ∧ j ≤ k ∧ k - j < k_) → (okC (spn ch u j (fun i => wrt (d i))) mk) → va_P D vwCl (arW T q n d (spn ch u j (fun i => wrt (d i))) mk) H → va_D A (arW T q n d (spn ch u j (fun i => wrt (d i))) mk) → va_S A s.heap H locs → lv_has ls 4 [(3, .int (iI (j))), (0, .ref (q 10)), (1, .int (iI (u))), (2, .int (iI (k)))] → W p l e (rmK 1) s m ([.ref (q 10), .int (iI (u)), .int (iI (k))] : List Value).toArray below meth cd H locs 0 0 Q (F0 m 2 ls []) := by
    intro k_
    induction k_ with
    | zero => intro j H locs ls hj hC _ _ _ _; exact absurd hj (by omega)
    | succ k_ ih1 =>
      intro j H locs ls hj hC hP hD hS hl
      refine lv_iload_n hx hb d_AR_replace_2 rfl (lv_at hl 0 rfl) ?_
      refine lv_iload_n hx hb d_AR_replace_3 rfl (lv_at hl 3 rfl) ?_
      refine cx_icmp_ge (tgt := 32) hx hb d_AR_replace_4 rfl (by omega) (by omega) (fun h4 => ?_) (fun h4 => ?_)
      · obtain rfl : j = k := by omega
        exact hret () trivial hP hD hS d_AR_replace_32
      · have h1 := hd j (by omega) (by omega)
        have h2 := wrt_in h1
        refine lv_aload_n hx hb d_AR_replace_7 rfl (lv_at hl 1 rfl) ?_
        refine va_get (D := D) (ci := 0) (v := .ref (q 1)) (C := R_AR) (T := T_AR) (N := 2) hx hb hT lays_AR hown hK hP 0 rfl rfl 0 (by decide) (hT _ tw_71) (fun _ h9 => h9) rfl d_AR_replace_8 ?_
        refine lv_iload_n hx hb d_AR_replace_11 rfl (lv_at hl 2 rfl) ?_
        refine lv_iload_n hx hb d_AR_replace_12 rfl (lv_at hl 0 rfl) ?_
        refine cx_isub hx hb d_AR_replace_13 ?_
        refine lv_aload_n hx hb d_AR_replace_14 rfl (lv_at hl 1 rfl) ?_
        refine va_get (D := D) (ci := 0) (v := .ref (q 11)) (C := R_AR) (T := T_AR) (N := 2) hx hb hT lays_AR hown hK hP 0 rfl rfl 1 (by decide) (hT _ tw_72) (fun _ h9 => h9) rfl d_AR_replace_15 ?_
        refine lv_iload_n hx hb d_AR_replace_18 rfl (lv_at hl 0 rfl) ?_
        refine cx_iald (g := iF d) hx hb hK hP 1 0 rfl rfl (by omega) (by omega) d_AR_replace_19 ?_
        refine cx_cI (ws2 := fun _ => arW T q n d (spn ch u j (fun i => wrt (d i))) mk) (cx_rN (rest := [.int (iI (u - j)), .ref (q 1)]) (As := [.int (iI (d (j)))]) hx hb hml hown hT hK hN hP hD hl.1 (show (Jvm.Cond.methodLinkNest "CharMachine$Arithmetic" (27 : Nat) ({ cls := "CharMachine", name := "written", desc := "(I)I" } : Jvm.MethodName) "CharMachine") ∈ nwL by decide +kernel) k_CM_written (c_CM_written l D T H.size (d (j)) (by omega)) ⟨by decide, by decide⟩ ⟨rfl, rfl⟩ [] (by decide) rfl rfl rfl (Nat.le_of_ble_eq_true rfl) ⟨Nat.zero_le _, Nat.zero_le _⟩ d_AR_replace_20) hP hD hS hA [] [0, 1, 2, 3] [0, 1, 2, 3] rfl (wr := [(q 10, .inr (0, [.ref (q 1), .ref (q 11)])), (q 11, .inl (T 0, n, .inl (fun jj : Nat => (iF d) (jj : Int)))), (q 1, .inr (3, [.ref (q 2)])), (q 2, .inl (T 0, n, .inl (fun jj : Nat => (ceF (spn ch u j (fun i => wrt (d i))) mk) (jj : Int))))]) rfl (by decide) (by decide) (fun _ => rfl) (by decide) (fun r u_ H locs hq20 hP hD hS => ?_)
        subst hq20
        refine cx_cV (ws2 := fun _ => arW T q n d (fu (spn ch u j (fun i => wrt (d i))) (u - j) (wrt (d (j)))) mk) (cx_rV (q0 := 2) (ci := 3) (rest := []) (As := [.int (iI (u - j)), .int (iI (wrt (d (j))))]) hx hb hml hown hT hK hN hP hD hl.1 tw_386 k_ST_write (c_ST_write l D T H.size q n (spn ch u j (fun i => wrt (d i))) mk hn hC (u - j) (by omega) (wrt (d (j))) (by omega)) ⟨by decide, by decide⟩ ⟨rfl, rfl⟩ [2, 3] (by decide) rfl rfl rfl rfl rfl (Nat.le_of_ble_eq_true rfl) ⟨Nat.zero_le _, Nat.zero_le _⟩ d_AR_replace_23) hP hD hS hA [2, 3] [0, 1] [0, 1, 2, 3] rfl (wr := [(q 10, .inr (0, [.ref (q 1), .ref (q 11)])), (q 11, .inl (T 0, n, .inl (fun jj : Nat => (iF d) (jj : Int))))]) rfl (by decide) (by decide) (fun _ => rfl) (by decide) (fun u_ H locs hq23 hP hD hS => ?_)
        have hC : okC (fu (spn ch u j (fun i => wrt (d i))) (u - j) (wrt (d (j)))) mk := okC_fu hC (by omega)
        refine cx_iinc (k := 0) (lv' := [(3, .int (iI (j + 1))), (0, .ref (q 10)), (1, .int (iI (u))), (2, .int (iI (k)))]) hx hb d_AR_replace_26 hl rfl (by decide) rfl (fun ls hl => ?_)
        refine lv_goto (tgt := 2) hx hb d_AR_replace_29 rfl ?_
        rw [spn_step (F := fun i => wrt (d i)) (by omega) rfl] at hP hD hC
        exact ih1 (j + 1) _ _ _ (by omega) hC hP hD hS (lv_sub hl [0, 1, 2, 3] rfl)
  rw [← spn_0 ch u (fun i => wrt (d i))] at hP hD
  exact L1 2001 0 _ _ _ (by omega) (by rw [spn_0]; exact hC) hP hD hS (lv_sub hl [0, 1, 2, 3] rfl)

set_option maxHeartbeats 4000000 in
set_option maxRecDepth 100000 in
theorem c_AR_add (l : Launch) (D : va_G) (T : Nat → ClassId) (sz : Nat) (q : Nat → Nat) (n : Nat) (d ch mk : Int → Int) (hn : 400 ≤ n ∧ n ≤ 2000) (hC : okC ch mk) (u k : Int) (h_u : 0 ≤ u ∧ u < n) (h_k : 1 ≤ k ∧ k ≤ u + 1) (hd : ∀ i, 0 ≤ i → i < k → 0 ≤ d i ∧ d i < 10) : MI l y_AR_add (wY y_AR_add b_AR_add 7 (some .boolean)) (rmK 1) D vwCl (tyL T) nwL sz [.ref (q 10), .int (iI (u)), .int (iI (k))] (arW T q n d ch mk) (fun r (_ : Unit) => (r = iI 1 ∧ 0 < car d (fun i => vl (ch (u - i))) k.toNat) ∨ (r = iI 0 ∧ car d (fun i => vl (ch (u - i))) k.toNat ≤ 0)) (fun _ => arW T q n d (spn ch u k (adF ch d u)) mk) := by
  refine cx_inZ (by decide) rfl (Nat.le_of_ble_eq_true rfl) ?_
  intro p e s m below meth cd ls A Q hx hb hml hT hown hret hP hK hD hN hS hA hl
  have hown : s.vm.findClass R_AR = some m.cls := hown
  have hl : lv_has ls 7 [(0, .ref (q 10)), (1, .int (iI (u))), (2, .int (iI (k)))] := hl
  have hC0 := hC
  have hz := zn_in (hC.1 u)
  obtain ⟨zz, hzz⟩ : ∃ x, x = zn (ch u) := ⟨_, rfl⟩
  refine lv_aload_n hx hb d_AR_add_0 rfl (lv_at hl 0 rfl) ?_
  refine va_get (D := D) (ci := 0) (v := .ref (q 1)) (C := R_AR) (T := T_AR) (N := 2) hx hb hT lays_AR hown hK hP 0 rfl rfl 0 (by decide) (hT _ tw_71) (fun _ h9 => h9) rfl d_AR_add_1 ?_
  refine lv_iload_n hx hb d_AR_add_4 rfl (lv_at hl 1 rfl) ?_
  refine cx_cI (ws2 := fun _ => arW T q n d ch mk) (cx_rV (q0 := 2) (ci := 3) (rest := []) (As := [.int (iI (u))]) hx hb hml hown hT hK hN hP hD hl.1 tw_407 k_ST_zone (c_ST_zone l D T s.heap.size q n ch mk hn hC u (by omega)) ⟨by decide, by decide⟩ ⟨rfl, rfl⟩ [2, 3] (by decide) rfl rfl rfl rfl rfl (Nat.le_of_ble_eq_true rfl) ⟨Nat.zero_le _, Nat.zero_le _⟩ d_AR_add_5) hP hD hS hA [2, 3] [0, 1] [0, 1, 2, 3] rfl (wr := [(q 10, .inr (0, [.ref (q 1), .ref (q 11)])), (q 11, .inl (T 0, n, .inl (fun jj : Nat => (iF d) (jj : Int))))]) rfl (by decide) (by decide) (fun _ => rfl) (by decide) (fun r u_ H locs hq5 hP hD hS => ?_)
  subst hq5
  refine lv_istore_n (lv' := [(3, .int (iI (zn (ch (u))))), (0, .ref (q 10)), (1, .int (iI (u))), (2, .int (iI (k)))]) hx hb d_AR_add_8 rfl hl (by decide) rfl (fun ls hl => ?_)
  refine cx_iconst hx hb d_AR_add_9 ?_
  refine lv_istore (lv' := [(4, .int (iI (0))), (3, .int (iI (zn (ch (u))))), (0, .ref (q 10)), (1, .int (iI (u))), (2, .int (iI (k)))]) hx hb d_AR_add_10 hl (by decide) rfl (fun ls hl => ?_)
  refine cx_iconst hx hb d_AR_add_12 ?_
  refine lv_istore (lv' := [(5, .int (iI (0))), (4, .int (iI (0))), (3, .int (iI (zn (ch (u))))), (0, .ref (q 10)), (1, .int (iI (u))), (2, .int (iI (k)))]) hx hb d_AR_add_13 hl (by decide) rfl (fun ls hl => ?_)
  have L1 : ∀ (k_ : Nat) (j : Int) (v : Int) (H : Heap) (locs : List Loc) (ls : Array Slot), (0 ≤ j ∧ j ≤ k ∧ k - j < k_) → (okC (spn ch u j (adF ch d u)) mk) → (v = car d (fun i => vl (ch (u - i))) j.toNat) → (0 ≤ v ∧ v ≤ 1) → va_P D vwCl (arW T q n d (spn ch u j (adF ch d u)) mk) H → va_D A (arW T q n d (spn ch u j (adF ch d u)) mk) → va_S A s.heap H locs → lv_has ls 7 [(5, .int (iI (j))), (4, .int (iI (v))), (3, .int (iI (zn (ch u)))), (0, .ref (q 10)), (1, .int (iI (u))), (2, .int (iI (k)))] → W p l e (rmK 1) s m ([.ref (q 10), .int (iI (u)), .int (iI (k))] : List Value).toArray below meth cd H locs 0 0 Q (F0 m 15 ls []) := by
    intro k_
    induction k_ with
    | zero => intro j v H locs ls hj hC hv hv2 _ _ _ _; exact absurd hj (by omega)
    | succ k_ ih1 =>
      intro j v H locs ls hj hC hv hv2 hP hD hS hl
      refine lv_iload hx hb d_AR_add_15 (lv_at hl 0 rfl) ?_
      refine lv_iload_n hx hb d_AR_add_17 rfl (lv_at hl 5 rfl) ?_
      refine cx_icmp_ge (tgt := 88) hx hb d_AR_add_18 rfl (by omega) (by omega) (fun h18 => ?_) (fun h18 => ?_)
      · obtain rfl : j = k := by omega
        refine lv_iload hx hb d_AR_add_88 (lv_at hl 1 rfl) ?_
        refine cx_if_le (tgt := 97) hx hb d_AR_add_90 rfl (by omega) (fun h90 => ?_) (fun h90 => ?_)
        · refine cx_iconst hx hb d_AR_add_97 ?_
          exact hret () (Or.inl rfl) (Or.inr ⟨rfl, by rw [← hv]; omega⟩) hP hD hS d_AR_add_98
        · refine cx_iconst hx hb d_AR_add_93 ?_
          refine lv_goto (tgt := 98) hx hb d_AR_add_94 rfl ?_
          exact hret () (Or.inr rfl) (Or.inl ⟨rfl, by rw [← hv]; omega⟩) hP hD hS d_AR_add_98
      · have h1 := hd j (by omega) (by omega)
        have h2 := vl_in (hC0.1 (u - j))
        refine lv_aload_n hx hb d_AR_add_21 rfl (lv_at hl 3 rfl) ?_
        refine va_get (D := D) (ci := 0) (v := .ref (q 1)) (C := R_AR) (T := T_AR) (N := 2) hx hb hT lays_AR hown hK hP 0 rfl rfl 0 (by decide) (hT _ tw_71) (fun _ h9 => h9) rfl d_AR_add_22 ?_
        refine lv_iload_n hx hb d_AR_add_25 rfl (lv_at hl 4 rfl) ?_
        refine lv_iload hx hb d_AR_add_26 (lv_at hl 0 rfl) ?_
        refine cx_isub hx hb d_AR_add_28 ?_
        refine cx_cI (ws2 := fun _ => arW T q n d (spn ch u j (adF ch d u)) mk) (cx_rV (q0 := 2) (ci := 3) (rest := []) (As := [.int (iI (u - j))]) hx hb hml hown hT hK hN hP hD hl.1 tw_378 k_ST_digit (c_ST_digit l D T H.size q n (spn ch u j (adF ch d u)) mk hn hC (u - j) (by omega)) ⟨by decide, by decide⟩ ⟨rfl, rfl⟩ [2, 3] (by decide) rfl rfl rfl rfl rfl (Nat.le_of_ble_eq_true rfl) ⟨Nat.zero_le _, Nat.zero_le _⟩ d_AR_add_29) hP hD hS hA [2, 3] [0, 1] [0, 1, 2, 3] rfl (wr := [(q 10, .inr (0, [.ref (q 1), .ref (q 11)])), (q 11, .inl (T 0, n, .inl (fun jj : Nat => (iF d) (jj : Int))))]) rfl (by decide) (by decide) (fun _ => rfl) (by decide) (fun r u_ H locs hq29 hP hD hS => ?_)
        subst hq29
        refine cx_eq (show iI (vl ((spn ch u j (adF ch d u)) (u - j))) = iI (vl (ch (u - j))) from by rw [spn_out (by omega)]) ?_
        refine lv_aload_n hx hb d_AR_add_32 rfl (lv_at hl 3 rfl) ?_
        refine va_get (D := D) (ci := 0) (v := .ref (q 11)) (C := R_AR) (T := T_AR) (N := 2) hx hb hT lays_AR hown hK hP 0 rfl rfl 1 (by decide) (hT _ tw_72) (fun _ h9 => h9) rfl d_AR_add_33 ?_
        refine lv_iload hx hb d_AR_add_36 (lv_at hl 0 rfl) ?_
        refine cx_iald (g := iF d) hx hb hK hP 1 0 rfl rfl (by omega) (by omega) d_AR_add_38 ?_
        refine cx_iadd hx hb d_AR_add_39 ?_
        refine lv_iload hx hb d_AR_add_40 (lv_at hl 1 rfl) ?_
        refine cx_iadd hx hb d_AR_add_42 ?_
        refine lv_istore (lv' := [(6, .int (iI (((vl (ch (u - j))) + (d (j))) + v))), (5, .int (iI (j))), (4, .int (iI (v))), (3, .int (iI (zn (ch u)))), (0, .ref (q 10)), (1, .int (iI (u))), (2, .int (iI (k)))]) hx hb d_AR_add_43 hl (by decide) rfl (fun ls hl => ?_)
        have h3 := wrt_in (v := (vl (ch (u - j)) + d j + v) % 10) (by omega)
        refine lv_iload hx hb d_AR_add_45 (lv_at hl 0 rfl) ?_
        refine cx_bipush hx hb d_AR_add_47 rfl ?_
        refine cx_idiv hx hb d_AR_add_49 (by omega) (by omega) ?_
        refine lv_istore (lv' := [(4, .int (iI ((((vl (ch (u - j))) + (d (j))) + v) / 10))), (6, .int (iI (((vl (ch (u - j))) + (d (j))) + v))), (5, .int (iI (j))), (3, .int (iI (zn (ch u)))), (0, .ref (q 10)), (1, .int (iI (u))), (2, .int (iI (k)))]) hx hb d_AR_add_50 hl (by decide) rfl (fun ls hl => ?_)
        refine lv_aload_n hx hb d_AR_add_52 rfl (lv_at hl 4 rfl) ?_
        refine va_get (D := D) (ci := 0) (v := .ref (q 1)) (C := R_AR) (T := T_AR) (N := 2) hx hb hT lays_AR hown hK hP 0 rfl rfl 0 (by decide) (hT _ tw_71) (fun _ h9 => h9) rfl d_AR_add_53 ?_
        refine lv_iload_n hx hb d_AR_add_56 rfl (lv_at hl 5 rfl) ?_
        refine lv_iload hx hb d_AR_add_57 (lv_at hl 2 rfl) ?_
        refine cx_isub hx hb d_AR_add_59 ?_
        refine lv_iload hx hb d_AR_add_60 (lv_at hl 1 rfl) ?_
        refine cx_bipush hx hb d_AR_add_62 rfl ?_
        refine cx_irem hx hb d_AR_add_64 (by omega) (by omega) ?_
        refine cx_cI (ws2 := fun _ => arW T q n d (spn ch u j (adF ch d u)) mk) (cx_rN (rest := [.int (iI (u - j)), .ref (q 1)]) (As := [.int (iI ((((vl (ch (u - j))) + (d (j))) + v) % 10))]) hx hb hml hown hT hK hN hP hD hl.1 (show (Jvm.Cond.methodLinkNest "CharMachine$Arithmetic" (27 : Nat) ({ cls := "CharMachine", name := "written", desc := "(I)I" } : Jvm.MethodName) "CharMachine") ∈ nwL by decide +kernel) k_CM_written (c_CM_written l D T H.size ((((vl (ch (u - j))) + (d (j))) + v) % 10) (by omega)) ⟨by decide, by decide⟩ ⟨rfl, rfl⟩ [] (by decide) rfl rfl rfl (Nat.le_of_ble_eq_true rfl) ⟨Nat.zero_le _, Nat.zero_le _⟩ d_AR_add_65) hP hD hS hA [] [0, 1, 2, 3] [0, 1, 2, 3] rfl (wr := [(q 10, .inr (0, [.ref (q 1), .ref (q 11)])), (q 11, .inl (T 0, n, .inl (fun jj : Nat => (iF d) (jj : Int)))), (q 1, .inr (3, [.ref (q 2)])), (q 2, .inl (T 0, n, .inl (fun jj : Nat => (ceF (spn ch u j (adF ch d u)) mk) (jj : Int))))]) rfl (by decide) (by decide) (fun _ => rfl) (by decide) (fun r u_ H locs hq65 hP hD hS => ?_)
        subst hq65
        refine lv_iload hx hb d_AR_add_68 (lv_at hl 2 rfl) ?_
        refine cx_if_ne (tgt := 77) hx hb d_AR_add_70 rfl (by omega) (fun h70 => ?_) (fun h70 => ?_)
        · refine cx_iconst hx hb d_AR_add_77 ?_
          refine lv_ior hx hb d_AR_add_78 ?_
          refine cx_eq (bt_z0 (by omega)) ?_
          refine cx_cV (ws2 := fun _ => arW T q n d (fu (spn ch u j (adF ch d u)) (u - j) (wrt ((((vl (ch (u - j))) + (d (j))) + v) % 10) + 0)) mk) (cx_rV (q0 := 2) (ci := 3) (rest := []) (As := [.int (iI (u - j)), .int (iI (wrt ((((vl (ch (u - j))) + (d (j))) + v) % 10) + 0))]) hx hb hml hown hT hK hN hP hD hl.1 tw_386 k_ST_write (c_ST_write l D T H.size q n (spn ch u j (adF ch d u)) mk hn hC (u - j) (by omega) (wrt ((((vl (ch (u - j))) + (d (j))) + v) % 10) + 0) (by omega)) ⟨by decide, by decide⟩ ⟨rfl, rfl⟩ [2, 3] (by decide) rfl rfl rfl rfl rfl (Nat.le_of_ble_eq_true rfl) ⟨Nat.zero_le _, Nat.zero_le _⟩ d_AR_add_79) hP hD hS hA [2, 3] [0, 1] [0, 1, 2, 3] rfl (wr := [(q 10, .inr (0, [.ref (q 1), .ref (q 11)])), (q 11, .inl (T 0, n, .inl (fun jj : Nat => (iF d) (jj : Int))))]) rfl (by decide) (by decide) (fun _ => rfl) (by decide) (fun u_ H locs hq79 hP hD hS => ?_)
          have hC : okC (fu (spn ch u j (adF ch d u)) (u - j) (wrt ((((vl (ch (u - j))) + (d (j))) + v) % 10) + 0)) mk := okC_fu hC (by omega)
          refine cx_iinc (k := 2) (lv' := [(5, .int (iI (j + 1))), (4, .int (iI ((((vl (ch (u - j))) + (d (j))) + v) / 10))), (6, .int (iI (((vl (ch (u - j))) + (d (j))) + v))), (3, .int (iI (zn (ch u)))), (0, .ref (q 10)), (1, .int (iI (u))), (2, .int (iI (k)))]) hx hb d_AR_add_82 hl rfl (by decide) rfl (fun ls hl => ?_)
          refine lv_goto (tgt := 15) hx hb d_AR_add_85 rfl ?_
          rw [spn_step (F := adF ch d u) (by omega) (by unfold adF; rw [← hv, if_neg h70])] at hP hD hC
          exact ih1 (j + 1) ((((vl (ch (u - j))) + (d (j))) + v) / 10) _ _ _ (by omega) hC (by rw [car_step (by omega), hv]) (by omega) hP hD hS (lv_sub hl [0, 1, 3, 4, 5, 6] rfl)
        · refine lv_iload_n hx hb d_AR_add_73 rfl (lv_at hl 3 rfl) ?_
          refine lv_goto (tgt := 78) hx hb d_AR_add_74 rfl ?_
          refine lv_ior hx hb d_AR_add_78 ?_
          refine cx_eq (bt_zn (by omega) (hC0.1 u)) ?_
          refine cx_cV (ws2 := fun _ => arW T q n d (fu (spn ch u j (adF ch d u)) (u - j) (wrt ((((vl (ch (u - j))) + (d (j))) + v) % 10) + zn (ch u))) mk) (cx_rV (q0 := 2) (ci := 3) (rest := []) (As := [.int (iI (u - j)), .int (iI (wrt ((((vl (ch (u - j))) + (d (j))) + v) % 10) + zn (ch u)))]) hx hb hml hown hT hK hN hP hD hl.1 tw_386 k_ST_write (c_ST_write l D T H.size q n (spn ch u j (adF ch d u)) mk hn hC (u - j) (by omega) (wrt ((((vl (ch (u - j))) + (d (j))) + v) % 10) + zn (ch u)) (by omega)) ⟨by decide, by decide⟩ ⟨rfl, rfl⟩ [2, 3] (by decide) rfl rfl rfl rfl rfl (Nat.le_of_ble_eq_true rfl) ⟨Nat.zero_le _, Nat.zero_le _⟩ d_AR_add_79) hP hD hS hA [2, 3] [0, 1] [0, 1, 2, 3] rfl (wr := [(q 10, .inr (0, [.ref (q 1), .ref (q 11)])), (q 11, .inl (T 0, n, .inl (fun jj : Nat => (iF d) (jj : Int))))]) rfl (by decide) (by decide) (fun _ => rfl) (by decide) (fun u_ H locs hq79 hP hD hS => ?_)
          have hC : okC (fu (spn ch u j (adF ch d u)) (u - j) (wrt ((((vl (ch (u - j))) + (d (j))) + v) % 10) + zn (ch u))) mk := okC_fu hC (by omega)
          refine cx_iinc (k := 2) (lv' := [(5, .int (iI (j + 1))), (4, .int (iI ((((vl (ch (u - j))) + (d (j))) + v) / 10))), (6, .int (iI (((vl (ch (u - j))) + (d (j))) + v))), (3, .int (iI (zn (ch u)))), (0, .ref (q 10)), (1, .int (iI (u))), (2, .int (iI (k)))]) hx hb d_AR_add_82 hl rfl (by decide) rfl (fun ls hl => ?_)
          refine lv_goto (tgt := 15) hx hb d_AR_add_85 rfl ?_
          rw [spn_step (F := adF ch d u) (by omega) (by unfold adF; rw [← hv, if_pos h70])] at hP hD hC
          exact ih1 (j + 1) ((((vl (ch (u - j))) + (d (j))) + v) / 10) _ _ _ (by omega) hC (by rw [car_step (by omega), hv]) (by omega) hP hD hS (lv_sub hl [0, 1, 3, 4, 5, 6] rfl)
  rw [← spn_0 ch u (adF ch d u)] at hP hD
  exact L1 2001 0 0 _ _ _ (by omega) (by rw [spn_0]; exact hC) rfl (by omega) hP hD hS (lv_sub hl [0, 1, 2, 3, 4, 5] rfl)

set_option maxHeartbeats 4000000 in
set_option maxRecDepth 100000 in
theorem c_AR_subtract (l : Launch) (D : va_G) (T : Nat → ClassId) (sz : Nat) (q : Nat → Nat) (n : Nat) (d ch mk : Int → Int) (hn : 400 ≤ n ∧ n ≤ 2000) (hC : okC ch mk) (u k : Int) (h_u : 0 ≤ u ∧ u < n) (h_k : 1 ≤ k ∧ k ≤ u + 1) (hd : ∀ i, 0 ≤ i → i < k → 0 ≤ d i ∧ d i < 10) (g : Int) (hg : g = 0 ∨ g = 1) : MV l y_AR_subtract (wY y_AR_subtract b_AR_subtract 8 none) (rmK 1) D vwCl (tyL T) nwL sz [.ref (q 10), .int (iI (u)), .int (iI (k)), .int (iI (g))] (arW T q n d ch mk) (fun (_ : Unit) => True) (fun _ => arW T q n d (spn ch u k (sbF ch d u g)) mk) := by
  refine cx_inV (by decide) rfl (Nat.le_of_ble_eq_true rfl) ?_
  intro p e s m below meth cd ls A Q hx hb hml hT hown hret hP hK hD hN hS hA hl
  have hown : s.vm.findClass R_AR = some m.cls := hown
  have hl : lv_has ls 8 [(0, .ref (q 10)), (1, .int (iI (u))), (2, .int (iI (k))), (3, .int (iI (g)))] := hl
  have hC0 := hC
  refine cx_iconst hx hb d_AR_subtract_0 ?_
  refine lv_istore (lv' := [(4, .int (iI (0))), (0, .ref (q 10)), (1, .int (iI (u))), (2, .int (iI (k))), (3, .int (iI (g)))]) hx hb d_AR_subtract_1 hl (by decide) rfl (fun ls hl => ?_)
  refine cx_iconst hx hb d_AR_subtract_3 ?_
  refine lv_istore (lv' := [(5, .int (iI (0))), (4, .int (iI (0))), (0, .ref (q 10)), (1, .int (iI (u))), (2, .int (iI (k))), (3, .int (iI (g)))]) hx hb d_AR_subtract_4 hl (by decide) rfl (fun ls hl => ?_)
  have L1 : ∀ (k_ : Nat) (j : Int) (v : Int) (H : Heap) (locs : List Loc) (ls : Array Slot), (0 ≤ j ∧ j ≤ k ∧ k - j < k_) → (okC (spn ch u j (sbF ch d u g)) mk) → (v = bor g d (fun i => vl (ch (u - i))) j.toNat) → (0 ≤ v ∧ v ≤ 1) → va_P D vwCl (arW T q n d (spn ch u j (sbF ch d u g)) mk) H → va_D A (arW T q n d (spn ch u j (sbF ch d u g)) mk) → va_S A s.heap H locs → lv_has ls 8 [(5, .int (iI (j))), (4, .int (iI (v))), (0, .ref (q 10)), (1, .int (iI (u))), (2, .int (iI (k))), (3, .int (iI (g)))] → W p l e (rmK 1) s m ([.ref (q 10), .int (iI (u)), .int (iI (k)), .int (iI (g))] : List Value).toArray below meth cd H locs 0 0 Q (F0 m 6 ls []) := by
    intro k_
    induction k_ with
    | zero => intro j v H locs ls hj hC hv hv2 _ _ _ _; exact absurd hj (by omega)
    | succ k_ ih1 =>
      intro j v H locs ls hj hC hv hv2 hP hD hS hl
      refine lv_iload hx hb d_AR_subtract_6 (lv_at hl 0 rfl) ?_
      refine lv_iload_n hx hb d_AR_subtract_8 rfl (lv_at hl 4 rfl) ?_
      refine cx_icmp_ge (tgt := 97) hx hb d_AR_subtract_9 rfl (by omega) (by omega) (fun h9 => ?_) (fun h9 => ?_)
      · obtain rfl : j = k := by omega
        exact hret () trivial hP hD hS d_AR_subtract_97
      · have h1 := hd j (by omega) (by omega)
        have h2 := vl_in (hC0.1 (u - j))
        refine lv_aload_n hx hb d_AR_subtract_12 rfl (lv_at hl 2 rfl) ?_
        refine va_get (D := D) (ci := 0) (v := .ref (q 1)) (C := R_AR) (T := T_AR) (N := 2) hx hb hT lays_AR hown hK hP 0 rfl rfl 0 (by decide) (hT _ tw_71) (fun _ h9 => h9) rfl d_AR_subtract_13 ?_
        refine lv_iload_n hx hb d_AR_subtract_16 rfl (lv_at hl 3 rfl) ?_
        refine lv_iload hx hb d_AR_subtract_17 (lv_at hl 0 rfl) ?_
        refine cx_isub hx hb d_AR_subtract_19 ?_
        refine cx_cI (ws2 := fun _ => arW T q n d (spn ch u j (sbF ch d u g)) mk) (cx_rV (q0 := 2) (ci := 3) (rest := []) (As := [.int (iI (u - j))]) hx hb hml hown hT hK hN hP hD hl.1 tw_378 k_ST_digit (c_ST_digit l D T H.size q n (spn ch u j (sbF ch d u g)) mk hn hC (u - j) (by omega)) ⟨by decide, by decide⟩ ⟨rfl, rfl⟩ [2, 3] (by decide) rfl rfl rfl rfl rfl (Nat.le_of_ble_eq_true rfl) ⟨Nat.zero_le _, Nat.zero_le _⟩ d_AR_subtract_20) hP hD hS hA [2, 3] [0, 1] [0, 1, 2, 3] rfl (wr := [(q 10, .inr (0, [.ref (q 1), .ref (q 11)])), (q 11, .inl (T 0, n, .inl (fun jj : Nat => (iF d) (jj : Int))))]) rfl (by decide) (by decide) (fun _ => rfl) (by decide) (fun r u_ H locs hq20 hP hD hS => ?_)
        subst hq20
        refine cx_eq (show iI (vl ((spn ch u j (sbF ch d u g)) (u - j))) = iI (vl (ch (u - j))) from by rw [spn_out (by omega)]) ?_
        refine lv_istore (lv' := [(6, .int (iI (vl (ch (u - j))))), (5, .int (iI (j))), (4, .int (iI (v))), (0, .ref (q 10)), (1, .int (iI (u))), (2, .int (iI (k))), (3, .int (iI (g)))]) hx hb d_AR_subtract_23 hl (by decide) rfl (fun ls hl => ?_)
        refine lv_iload_n hx hb d_AR_subtract_25 rfl (lv_at hl 6 rfl) ?_
        refine cx_if_eq (tgt := 42) hx hb d_AR_subtract_26 rfl (by omega) (fun h26 => ?_) (fun h26 => ?_)
        · refine lv_iload hx hb d_AR_subtract_42 (lv_at hl 0 rfl) ?_
          refine lv_aload_n hx hb d_AR_subtract_44 rfl (lv_at hl 3 rfl) ?_
          refine va_get (D := D) (ci := 0) (v := .ref (q 11)) (C := R_AR) (T := T_AR) (N := 2) hx hb hT lays_AR hown hK hP 0 rfl rfl 1 (by decide) (hT _ tw_72) (fun _ h9 => h9) rfl d_AR_subtract_45 ?_
          refine lv_iload hx hb d_AR_subtract_48 (lv_at hl 1 rfl) ?_
          refine cx_iald (g := iF d) hx hb hK hP 1 0 rfl rfl (by omega) (by omega) d_AR_subtract_50 ?_
          refine cx_isub hx hb d_AR_subtract_51 ?_
          refine lv_iload hx hb d_AR_subtract_52 (lv_at hl 2 rfl) ?_
          refine cx_isub hx hb d_AR_subtract_54 ?_
          refine lv_istore (lv' := [(7, .int (iI (((vl (ch (u - j))) - (d (j))) - v))), (6, .int (iI (vl (ch (u - j))))), (5, .int (iI (j))), (4, .int (iI (v))), (0, .ref (q 10)), (1, .int (iI (u))), (2, .int (iI (k))), (3, .int (iI (g)))]) hx hb d_AR_subtract_55 hl (by decide) rfl (fun ls hl => ?_)
          refine lv_iload hx hb d_AR_subtract_57 (lv_at hl 0 rfl) ?_
          refine cx_if_ge (tgt := 66) hx hb d_AR_subtract_59 rfl (by omega) (fun h59 => ?_) (fun h59 => ?_)
          · refine cx_iconst hx hb d_AR_subtract_66 ?_
            refine lv_istore (lv' := [(4, .int (iI (0))), (7, .int (iI (((vl (ch (u - j))) - (d (j))) - v))), (6, .int (iI (vl (ch (u - j))))), (5, .int (iI (j))), (0, .ref (q 10)), (1, .int (iI (u))), (2, .int (iI (k))), (3, .int (iI (g)))]) hx hb d_AR_subtract_67 hl (by decide) rfl (fun ls hl => ?_)
            have hr9 : sbR g d (fun i => vl (ch (u - i))) v j = ((vl (ch (u - j))) - (d (j))) - v := by unfold sbR; rw [if_pos h26]
            have hw9 : (if sbR g d (fun i => vl (ch (u - i))) v j < 0 then (1 : Int) else 0) = 0 := by rw [hr9]; rw [if_neg (by omega)]
            have h3 := wrt_in (v := (((vl (ch (u - j))) - (d (j))) - v) + 10 * 0) (by omega)
            refine lv_aload_n hx hb d_AR_subtract_69 rfl (lv_at hl 4 rfl) ?_
            refine va_get (D := D) (ci := 0) (v := .ref (q 1)) (C := R_AR) (T := T_AR) (N := 2) hx hb hT lays_AR hown hK hP 0 rfl rfl 0 (by decide) (hT _ tw_71) (fun _ h9 => h9) rfl d_AR_subtract_70 ?_
            refine lv_iload_n hx hb d_AR_subtract_73 rfl (lv_at hl 5 rfl) ?_
            refine lv_iload hx hb d_AR_subtract_74 (lv_at hl 3 rfl) ?_
            refine cx_isub hx hb d_AR_subtract_76 ?_
            refine lv_iload hx hb d_AR_subtract_77 (lv_at hl 1 rfl) ?_
            refine cx_bipush hx hb d_AR_subtract_79 rfl ?_
            refine lv_iload hx hb d_AR_subtract_81 (lv_at hl 0 rfl) ?_
            refine cx_imul hx hb d_AR_subtract_83 ?_
            refine cx_iadd hx hb d_AR_subtract_84 ?_
            refine cx_cI (ws2 := fun _ => arW T q n d (spn ch u j (sbF ch d u g)) mk) (cx_rN (rest := [.int (iI (u - j)), .ref (q 1)]) (As := [.int (iI ((((vl (ch (u - j))) - (d (j))) - v) + (10 * 0)))]) hx hb hml hown hT hK hN hP hD hl.1 (show (Jvm.Cond.methodLinkNest "CharMachine$Arithmetic" (27 : Nat) ({ cls := "CharMachine", name := "written", desc := "(I)I" } : Jvm.MethodName) "CharMachine") ∈ nwL by decide +kernel) k_CM_written (c_CM_written l D T H.size ((((vl (ch (u - j))) - (d (j))) - v) + (10 * 0)) (by omega)) ⟨by decide, by decide⟩ ⟨rfl, rfl⟩ [] (by decide) rfl rfl rfl (Nat.le_of_ble_eq_true rfl) ⟨Nat.zero_le _, Nat.zero_le _⟩ d_AR_subtract_85) hP hD hS hA [] [0, 1, 2, 3] [0, 1, 2, 3] rfl (wr := [(q 10, .inr (0, [.ref (q 1), .ref (q 11)])), (q 11, .inl (T 0, n, .inl (fun jj : Nat => (iF d) (jj : Int)))), (q 1, .inr (3, [.ref (q 2)])), (q 2, .inl (T 0, n, .inl (fun jj : Nat => (ceF (spn ch u j (sbF ch d u g)) mk) (jj : Int))))]) rfl (by decide) (by decide) (fun _ => rfl) (by decide) (fun r u_ H locs hq85 hP hD hS => ?_)
            subst hq85
            refine cx_cV (ws2 := fun _ => arW T q n d (fu (spn ch u j (sbF ch d u g)) (u - j) (wrt ((((vl (ch (u - j))) - (d (j))) - v) + (10 * 0)))) mk) (cx_rV (q0 := 2) (ci := 3) (rest := []) (As := [.int (iI (u - j)), .int (iI (wrt ((((vl (ch (u - j))) - (d (j))) - v) + (10 * 0))))]) hx hb hml hown hT hK hN hP hD hl.1 tw_386 k_ST_write (c_ST_write l D T H.size q n (spn ch u j (sbF ch d u g)) mk hn hC (u - j) (by omega) (wrt ((((vl (ch (u - j))) - (d (j))) - v) + (10 * 0))) (by omega)) ⟨by decide, by decide⟩ ⟨rfl, rfl⟩ [2, 3] (by decide) rfl rfl rfl rfl rfl (Nat.le_of_ble_eq_true rfl) ⟨Nat.zero_le _, Nat.zero_le _⟩ d_AR_subtract_88) hP hD hS hA [2, 3] [0, 1] [0, 1, 2, 3] rfl (wr := [(q 10, .inr (0, [.ref (q 1), .ref (q 11)])), (q 11, .inl (T 0, n, .inl (fun jj : Nat => (iF d) (jj : Int))))]) rfl (by decide) (by decide) (fun _ => rfl) (by decide) (fun u_ H locs hq88 hP hD hS => ?_)
            have hC : okC (fu (spn ch u j (sbF ch d u g)) (u - j) (wrt ((((vl (ch (u - j))) - (d (j))) - v) + (10 * 0)))) mk := okC_fu hC (by omega)
            refine cx_iinc (k := 3) (lv' := [(5, .int (iI (j + 1))), (4, .int (iI (0))), (7, .int (iI (((vl (ch (u - j))) - (d (j))) - v))), (6, .int (iI (vl (ch (u - j))))), (0, .ref (q 10)), (1, .int (iI (u))), (2, .int (iI (k))), (3, .int (iI (g)))]) hx hb d_AR_subtract_91 hl rfl (by decide) rfl (fun ls hl => ?_)
            refine lv_goto (tgt := 6) hx hb d_AR_subtract_94 rfl ?_
            rw [spn_step (F := sbF ch d u g) (by omega) (by unfold sbF; rw [bor_step (by omega), ← hv, hw9, hr9])] at hP hD hC
            exact ih1 (j + 1) 0 _ _ _ (by omega) hC (by rw [bor_step (by omega), ← hv, hw9]) (by omega) hP hD hS (lv_sub hl [0, 1, 4, 5, 6, 7] rfl)
          · refine cx_iconst hx hb d_AR_subtract_62 ?_
            refine lv_goto (tgt := 67) hx hb d_AR_subtract_63 rfl ?_
            refine lv_istore (lv' := [(4, .int (iI (1))), (7, .int (iI (((vl (ch (u - j))) - (d (j))) - v))), (6, .int (iI (vl (ch (u - j))))), (5, .int (iI (j))), (0, .ref (q 10)), (1, .int (iI (u))), (2, .int (iI (k))), (3, .int (iI (g)))]) hx hb d_AR_subtract_67 hl (by decide) rfl (fun ls hl => ?_)
            have hr9 : sbR g d (fun i => vl (ch (u - i))) v j = ((vl (ch (u - j))) - (d (j))) - v := by unfold sbR; rw [if_pos h26]
            have hw9 : (if sbR g d (fun i => vl (ch (u - i))) v j < 0 then (1 : Int) else 0) = 1 := by rw [hr9]; rw [if_pos (by omega)]
            have h3 := wrt_in (v := (((vl (ch (u - j))) - (d (j))) - v) + 10 * 1) (by omega)
            refine lv_aload_n hx hb d_AR_subtract_69 rfl (lv_at hl 4 rfl) ?_
            refine va_get (D := D) (ci := 0) (v := .ref (q 1)) (C := R_AR) (T := T_AR) (N := 2) hx hb hT lays_AR hown hK hP 0 rfl rfl 0 (by decide) (hT _ tw_71) (fun _ h9 => h9) rfl d_AR_subtract_70 ?_
            refine lv_iload_n hx hb d_AR_subtract_73 rfl (lv_at hl 5 rfl) ?_
            refine lv_iload hx hb d_AR_subtract_74 (lv_at hl 3 rfl) ?_
            refine cx_isub hx hb d_AR_subtract_76 ?_
            refine lv_iload hx hb d_AR_subtract_77 (lv_at hl 1 rfl) ?_
            refine cx_bipush hx hb d_AR_subtract_79 rfl ?_
            refine lv_iload hx hb d_AR_subtract_81 (lv_at hl 0 rfl) ?_
            refine cx_imul hx hb d_AR_subtract_83 ?_
            refine cx_iadd hx hb d_AR_subtract_84 ?_
            refine cx_cI (ws2 := fun _ => arW T q n d (spn ch u j (sbF ch d u g)) mk) (cx_rN (rest := [.int (iI (u - j)), .ref (q 1)]) (As := [.int (iI ((((vl (ch (u - j))) - (d (j))) - v) + (10 * 1)))]) hx hb hml hown hT hK hN hP hD hl.1 (show (Jvm.Cond.methodLinkNest "CharMachine$Arithmetic" (27 : Nat) ({ cls := "CharMachine", name := "written", desc := "(I)I" } : Jvm.MethodName) "CharMachine") ∈ nwL by decide +kernel) k_CM_written (c_CM_written l D T H.size ((((vl (ch (u - j))) - (d (j))) - v) + (10 * 1)) (by omega)) ⟨by decide, by decide⟩ ⟨rfl, rfl⟩ [] (by decide) rfl rfl rfl (Nat.le_of_ble_eq_true rfl) ⟨Nat.zero_le _, Nat.zero_le _⟩ d_AR_subtract_85) hP hD hS hA [] [0, 1, 2, 3] [0, 1, 2, 3] rfl (wr := [(q 10, .inr (0, [.ref (q 1), .ref (q 11)])), (q 11, .inl (T 0, n, .inl (fun jj : Nat => (iF d) (jj : Int)))), (q 1, .inr (3, [.ref (q 2)])), (q 2, .inl (T 0, n, .inl (fun jj : Nat => (ceF (spn ch u j (sbF ch d u g)) mk) (jj : Int))))]) rfl (by decide) (by decide) (fun _ => rfl) (by decide) (fun r u_ H locs hq85 hP hD hS => ?_)
            subst hq85
            refine cx_cV (ws2 := fun _ => arW T q n d (fu (spn ch u j (sbF ch d u g)) (u - j) (wrt ((((vl (ch (u - j))) - (d (j))) - v) + (10 * 1)))) mk) (cx_rV (q0 := 2) (ci := 3) (rest := []) (As := [.int (iI (u - j)), .int (iI (wrt ((((vl (ch (u - j))) - (d (j))) - v) + (10 * 1))))]) hx hb hml hown hT hK hN hP hD hl.1 tw_386 k_ST_write (c_ST_write l D T H.size q n (spn ch u j (sbF ch d u g)) mk hn hC (u - j) (by omega) (wrt ((((vl (ch (u - j))) - (d (j))) - v) + (10 * 1))) (by omega)) ⟨by decide, by decide⟩ ⟨rfl, rfl⟩ [2, 3] (by decide) rfl rfl rfl rfl rfl (Nat.le_of_ble_eq_true rfl) ⟨Nat.zero_le _, Nat.zero_le _⟩ d_AR_subtract_88) hP hD hS hA [2, 3] [0, 1] [0, 1, 2, 3] rfl (wr := [(q 10, .inr (0, [.ref (q 1), .ref (q 11)])), (q 11, .inl (T 0, n, .inl (fun jj : Nat => (iF d) (jj : Int))))]) rfl (by decide) (by decide) (fun _ => rfl) (by decide) (fun u_ H locs hq88 hP hD hS => ?_)
            have hC : okC (fu (spn ch u j (sbF ch d u g)) (u - j) (wrt ((((vl (ch (u - j))) - (d (j))) - v) + (10 * 1)))) mk := okC_fu hC (by omega)
            refine cx_iinc (k := 3) (lv' := [(5, .int (iI (j + 1))), (4, .int (iI (1))), (7, .int (iI (((vl (ch (u - j))) - (d (j))) - v))), (6, .int (iI (vl (ch (u - j))))), (0, .ref (q 10)), (1, .int (iI (u))), (2, .int (iI (k))), (3, .int (iI (g)))]) hx hb d_AR_subtract_91 hl rfl (by decide) rfl (fun ls hl => ?_)
            refine lv_goto (tgt := 6) hx hb d_AR_subtract_94 rfl ?_
            rw [spn_step (F := sbF ch d u g) (by omega) (by unfold sbF; rw [bor_step (by omega), ← hv, hw9, hr9])] at hP hD hC
            exact ih1 (j + 1) 1 _ _ _ (by omega) hC (by rw [bor_step (by omega), ← hv, hw9]) (by omega) hP hD hS (lv_sub hl [0, 1, 4, 5, 6, 7] rfl)
        · refine lv_aload_n hx hb d_AR_subtract_29 rfl (lv_at hl 3 rfl) ?_
          refine va_get (D := D) (ci := 0) (v := .ref (q 11)) (C := R_AR) (T := T_AR) (N := 2) hx hb hT lays_AR hown hK hP 0 rfl rfl 1 (by decide) (hT _ tw_72) (fun _ h9 => h9) rfl d_AR_subtract_30 ?_
          refine lv_iload hx hb d_AR_subtract_33 (lv_at hl 1 rfl) ?_
          refine cx_iald (g := iF d) hx hb hK hP 1 0 rfl rfl (by omega) (by omega) d_AR_subtract_35 ?_
          refine lv_iload hx hb d_AR_subtract_36 (lv_at hl 0 rfl) ?_
          refine cx_isub hx hb d_AR_subtract_38 ?_
          refine lv_goto (tgt := 52) hx hb d_AR_subtract_39 rfl ?_
          refine lv_iload hx hb d_AR_subtract_52 (lv_at hl 2 rfl) ?_
          refine cx_isub hx hb d_AR_subtract_54 ?_
          refine lv_istore (lv' := [(7, .int (iI (((d (j)) - (vl (ch (u - j)))) - v))), (6, .int (iI (vl (ch (u - j))))), (5, .int (iI (j))), (4, .int (iI (v))), (0, .ref (q 10)), (1, .int (iI (u))), (2, .int (iI (k))), (3, .int (iI (g)))]) hx hb d_AR_subtract_55 hl (by decide) rfl (fun ls hl => ?_)
          refine lv_iload hx hb d_AR_subtract_57 (lv_at hl 0 rfl) ?_
          refine cx_if_ge (tgt := 66) hx hb d_AR_subtract_59 rfl (by omega) (fun h59 => ?_) (fun h59 => ?_)
          · refine cx_iconst hx hb d_AR_subtract_66 ?_
            refine lv_istore (lv' := [(4, .int (iI (0))), (7, .int (iI (((d (j)) - (vl (ch (u - j)))) - v))), (6, .int (iI (vl (ch (u - j))))), (5, .int (iI (j))), (0, .ref (q 10)), (1, .int (iI (u))), (2, .int (iI (k))), (3, .int (iI (g)))]) hx hb d_AR_subtract_67 hl (by decide) rfl (fun ls hl => ?_)
            have hr9 : sbR g d (fun i => vl (ch (u - i))) v j = ((d (j)) - (vl (ch (u - j)))) - v := by unfold sbR; rw [if_neg h26]
            have hw9 : (if sbR g d (fun i => vl (ch (u - i))) v j < 0 then (1 : Int) else 0) = 0 := by rw [hr9]; rw [if_neg (by omega)]
            have h3 := wrt_in (v := (((d (j)) - (vl (ch (u - j)))) - v) + 10 * 0) (by omega)
            refine lv_aload_n hx hb d_AR_subtract_69 rfl (lv_at hl 4 rfl) ?_
            refine va_get (D := D) (ci := 0) (v := .ref (q 1)) (C := R_AR) (T := T_AR) (N := 2) hx hb hT lays_AR hown hK hP 0 rfl rfl 0 (by decide) (hT _ tw_71) (fun _ h9 => h9) rfl d_AR_subtract_70 ?_
            refine lv_iload_n hx hb d_AR_subtract_73 rfl (lv_at hl 5 rfl) ?_
            refine lv_iload hx hb d_AR_subtract_74 (lv_at hl 3 rfl) ?_
            refine cx_isub hx hb d_AR_subtract_76 ?_
            refine lv_iload hx hb d_AR_subtract_77 (lv_at hl 1 rfl) ?_
            refine cx_bipush hx hb d_AR_subtract_79 rfl ?_
            refine lv_iload hx hb d_AR_subtract_81 (lv_at hl 0 rfl) ?_
            refine cx_imul hx hb d_AR_subtract_83 ?_
            refine cx_iadd hx hb d_AR_subtract_84 ?_
            refine cx_cI (ws2 := fun _ => arW T q n d (spn ch u j (sbF ch d u g)) mk) (cx_rN (rest := [.int (iI (u - j)), .ref (q 1)]) (As := [.int (iI ((((d (j)) - (vl (ch (u - j)))) - v) + (10 * 0)))]) hx hb hml hown hT hK hN hP hD hl.1 (show (Jvm.Cond.methodLinkNest "CharMachine$Arithmetic" (27 : Nat) ({ cls := "CharMachine", name := "written", desc := "(I)I" } : Jvm.MethodName) "CharMachine") ∈ nwL by decide +kernel) k_CM_written (c_CM_written l D T H.size ((((d (j)) - (vl (ch (u - j)))) - v) + (10 * 0)) (by omega)) ⟨by decide, by decide⟩ ⟨rfl, rfl⟩ [] (by decide) rfl rfl rfl (Nat.le_of_ble_eq_true rfl) ⟨Nat.zero_le _, Nat.zero_le _⟩ d_AR_subtract_85) hP hD hS hA [] [0, 1, 2, 3] [0, 1, 2, 3] rfl (wr := [(q 10, .inr (0, [.ref (q 1), .ref (q 11)])), (q 11, .inl (T 0, n, .inl (fun jj : Nat => (iF d) (jj : Int)))), (q 1, .inr (3, [.ref (q 2)])), (q 2, .inl (T 0, n, .inl (fun jj : Nat => (ceF (spn ch u j (sbF ch d u g)) mk) (jj : Int))))]) rfl (by decide) (by decide) (fun _ => rfl) (by decide) (fun r u_ H locs hq85 hP hD hS => ?_)
            subst hq85
            refine cx_cV (ws2 := fun _ => arW T q n d (fu (spn ch u j (sbF ch d u g)) (u - j) (wrt ((((d (j)) - (vl (ch (u - j)))) - v) + (10 * 0)))) mk) (cx_rV (q0 := 2) (ci := 3) (rest := []) (As := [.int (iI (u - j)), .int (iI (wrt ((((d (j)) - (vl (ch (u - j)))) - v) + (10 * 0))))]) hx hb hml hown hT hK hN hP hD hl.1 tw_386 k_ST_write (c_ST_write l D T H.size q n (spn ch u j (sbF ch d u g)) mk hn hC (u - j) (by omega) (wrt ((((d (j)) - (vl (ch (u - j)))) - v) + (10 * 0))) (by omega)) ⟨by decide, by decide⟩ ⟨rfl, rfl⟩ [2, 3] (by decide) rfl rfl rfl rfl rfl (Nat.le_of_ble_eq_true rfl) ⟨Nat.zero_le _, Nat.zero_le _⟩ d_AR_subtract_88) hP hD hS hA [2, 3] [0, 1] [0, 1, 2, 3] rfl (wr := [(q 10, .inr (0, [.ref (q 1), .ref (q 11)])), (q 11, .inl (T 0, n, .inl (fun jj : Nat => (iF d) (jj : Int))))]) rfl (by decide) (by decide) (fun _ => rfl) (by decide) (fun u_ H locs hq88 hP hD hS => ?_)
            have hC : okC (fu (spn ch u j (sbF ch d u g)) (u - j) (wrt ((((d (j)) - (vl (ch (u - j)))) - v) + (10 * 0)))) mk := okC_fu hC (by omega)
            refine cx_iinc (k := 3) (lv' := [(5, .int (iI (j + 1))), (4, .int (iI (0))), (7, .int (iI (((d (j)) - (vl (ch (u - j)))) - v))), (6, .int (iI (vl (ch (u - j))))), (0, .ref (q 10)), (1, .int (iI (u))), (2, .int (iI (k))), (3, .int (iI (g)))]) hx hb d_AR_subtract_91 hl rfl (by decide) rfl (fun ls hl => ?_)
            refine lv_goto (tgt := 6) hx hb d_AR_subtract_94 rfl ?_
            rw [spn_step (F := sbF ch d u g) (by omega) (by unfold sbF; rw [bor_step (by omega), ← hv, hw9, hr9])] at hP hD hC
            exact ih1 (j + 1) 0 _ _ _ (by omega) hC (by rw [bor_step (by omega), ← hv, hw9]) (by omega) hP hD hS (lv_sub hl [0, 1, 4, 5, 6, 7] rfl)
          · refine cx_iconst hx hb d_AR_subtract_62 ?_
            refine lv_goto (tgt := 67) hx hb d_AR_subtract_63 rfl ?_
            refine lv_istore (lv' := [(4, .int (iI (1))), (7, .int (iI (((d (j)) - (vl (ch (u - j)))) - v))), (6, .int (iI (vl (ch (u - j))))), (5, .int (iI (j))), (0, .ref (q 10)), (1, .int (iI (u))), (2, .int (iI (k))), (3, .int (iI (g)))]) hx hb d_AR_subtract_67 hl (by decide) rfl (fun ls hl => ?_)
            have hr9 : sbR g d (fun i => vl (ch (u - i))) v j = ((d (j)) - (vl (ch (u - j)))) - v := by unfold sbR; rw [if_neg h26]
            have hw9 : (if sbR g d (fun i => vl (ch (u - i))) v j < 0 then (1 : Int) else 0) = 1 := by rw [hr9]; rw [if_pos (by omega)]
            have h3 := wrt_in (v := (((d (j)) - (vl (ch (u - j)))) - v) + 10 * 1) (by omega)
            refine lv_aload_n hx hb d_AR_subtract_69 rfl (lv_at hl 4 rfl) ?_
            refine va_get (D := D) (ci := 0) (v := .ref (q 1)) (C := R_AR) (T := T_AR) (N := 2) hx hb hT lays_AR hown hK hP 0 rfl rfl 0 (by decide) (hT _ tw_71) (fun _ h9 => h9) rfl d_AR_subtract_70 ?_
            refine lv_iload_n hx hb d_AR_subtract_73 rfl (lv_at hl 5 rfl) ?_
            refine lv_iload hx hb d_AR_subtract_74 (lv_at hl 3 rfl) ?_
            refine cx_isub hx hb d_AR_subtract_76 ?_
            refine lv_iload hx hb d_AR_subtract_77 (lv_at hl 1 rfl) ?_
            refine cx_bipush hx hb d_AR_subtract_79 rfl ?_
            refine lv_iload hx hb d_AR_subtract_81 (lv_at hl 0 rfl) ?_
            refine cx_imul hx hb d_AR_subtract_83 ?_
            refine cx_iadd hx hb d_AR_subtract_84 ?_
            refine cx_cI (ws2 := fun _ => arW T q n d (spn ch u j (sbF ch d u g)) mk) (cx_rN (rest := [.int (iI (u - j)), .ref (q 1)]) (As := [.int (iI ((((d (j)) - (vl (ch (u - j)))) - v) + (10 * 1)))]) hx hb hml hown hT hK hN hP hD hl.1 (show (Jvm.Cond.methodLinkNest "CharMachine$Arithmetic" (27 : Nat) ({ cls := "CharMachine", name := "written", desc := "(I)I" } : Jvm.MethodName) "CharMachine") ∈ nwL by decide +kernel) k_CM_written (c_CM_written l D T H.size ((((d (j)) - (vl (ch (u - j)))) - v) + (10 * 1)) (by omega)) ⟨by decide, by decide⟩ ⟨rfl, rfl⟩ [] (by decide) rfl rfl rfl (Nat.le_of_ble_eq_true rfl) ⟨Nat.zero_le _, Nat.zero_le _⟩ d_AR_subtract_85) hP hD hS hA [] [0, 1, 2, 3] [0, 1, 2, 3] rfl (wr := [(q 10, .inr (0, [.ref (q 1), .ref (q 11)])), (q 11, .inl (T 0, n, .inl (fun jj : Nat => (iF d) (jj : Int)))), (q 1, .inr (3, [.ref (q 2)])), (q 2, .inl (T 0, n, .inl (fun jj : Nat => (ceF (spn ch u j (sbF ch d u g)) mk) (jj : Int))))]) rfl (by decide) (by decide) (fun _ => rfl) (by decide) (fun r u_ H locs hq85 hP hD hS => ?_)
            subst hq85
            refine cx_cV (ws2 := fun _ => arW T q n d (fu (spn ch u j (sbF ch d u g)) (u - j) (wrt ((((d (j)) - (vl (ch (u - j)))) - v) + (10 * 1)))) mk) (cx_rV (q0 := 2) (ci := 3) (rest := []) (As := [.int (iI (u - j)), .int (iI (wrt ((((d (j)) - (vl (ch (u - j)))) - v) + (10 * 1))))]) hx hb hml hown hT hK hN hP hD hl.1 tw_386 k_ST_write (c_ST_write l D T H.size q n (spn ch u j (sbF ch d u g)) mk hn hC (u - j) (by omega) (wrt ((((d (j)) - (vl (ch (u - j)))) - v) + (10 * 1))) (by omega)) ⟨by decide, by decide⟩ ⟨rfl, rfl⟩ [2, 3] (by decide) rfl rfl rfl rfl rfl (Nat.le_of_ble_eq_true rfl) ⟨Nat.zero_le _, Nat.zero_le _⟩ d_AR_subtract_88) hP hD hS hA [2, 3] [0, 1] [0, 1, 2, 3] rfl (wr := [(q 10, .inr (0, [.ref (q 1), .ref (q 11)])), (q 11, .inl (T 0, n, .inl (fun jj : Nat => (iF d) (jj : Int))))]) rfl (by decide) (by decide) (fun _ => rfl) (by decide) (fun u_ H locs hq88 hP hD hS => ?_)
            have hC : okC (fu (spn ch u j (sbF ch d u g)) (u - j) (wrt ((((d (j)) - (vl (ch (u - j)))) - v) + (10 * 1)))) mk := okC_fu hC (by omega)
            refine cx_iinc (k := 3) (lv' := [(5, .int (iI (j + 1))), (4, .int (iI (1))), (7, .int (iI (((d (j)) - (vl (ch (u - j)))) - v))), (6, .int (iI (vl (ch (u - j))))), (0, .ref (q 10)), (1, .int (iI (u))), (2, .int (iI (k))), (3, .int (iI (g)))]) hx hb d_AR_subtract_91 hl rfl (by decide) rfl (fun ls hl => ?_)
            refine lv_goto (tgt := 6) hx hb d_AR_subtract_94 rfl ?_
            rw [spn_step (F := sbF ch d u g) (by omega) (by unfold sbF; rw [bor_step (by omega), ← hv, hw9, hr9])] at hP hD hC
            exact ih1 (j + 1) 1 _ _ _ (by omega) hC (by rw [bor_step (by omega), ← hv, hw9]) (by omega) hP hD hS (lv_sub hl [0, 1, 4, 5, 6, 7] rfl)
  rw [← spn_0 ch u (sbF ch d u g)] at hP hD
  exact L1 2001 0 0 _ _ _ (by omega) (by rw [spn_0]; exact hC) rfl (by omega) hP hD hS (lv_sub hl [0, 1, 2, 3, 4, 5] rfl)

set_option maxHeartbeats 4000000 in
set_option maxRecDepth 100000 in
theorem c_AR_isGreater (l : Launch) (D : va_G) (T : Nat → ClassId) (sz : Nat) (q : Nat → Nat) (n : Nat) (d ch mk : Int → Int) (hn : 400 ≤ n ∧ n ≤ 2000) (hC : okC ch mk) (u k : Int) (h_u : 0 ≤ u ∧ u < n) (h_k : 1 ≤ k ∧ k ≤ u + 1) (hd : ∀ i, 0 ≤ i → i < k → 0 ≤ d i ∧ d i < 10) : MI l y_AR_isGreater (wY y_AR_isGreater b_AR_isGreater 5 (some .boolean)) (rmK 1) D vwCl (tyL T) nwL sz [.ref (q 10), .int (iI (u)), .int (iI (k))] (arW T q n d ch mk) (fun r (_ : Unit) => (r = iI 1 ∧ gtr d (fun i => vl (ch (u - i))) k.toNat = 1) ∨ (r = iI 0 ∧ gtr d (fun i => vl (ch (u - i))) k.toNat = 0)) (fun _ => arW T q n d ch mk) := by
  refine cx_inZ (by decide) rfl (Nat.le_of_ble_eq_true rfl) ?_
  intro p e s m below meth cd ls A Q hx hb hml hT hown hret hP hK hD hN hS hA hl
  have hown : s.vm.findClass R_AR = some m.cls := hown
  have hl : lv_has ls 5 [(0, .ref (q 10)), (1, .int (iI (u))), (2, .int (iI (k)))] := hl
  refine lv_iload_n hx hb d_AR_isGreater_0 rfl (lv_at hl 2 rfl) ?_
  refine cx_iconst hx hb d_AR_isGreater_1 ?_
  refine cx_isub hx hb d_AR_isGreater_2 ?_
  refine lv_istore_n (lv' := [(3, .int (iI (k - 1))), (0, .ref (q 10)), (1, .int (iI (u))), (2, .int (iI (k)))]) hx hb d_AR_isGreater_3 rfl hl (by decide) rfl (fun ls hl => ?_)
  have L1 : ∀ (k_ : Nat) (j : Int) (H : Heap) (locs : List Loc) (ls : Array Slot), (-1 ≤ j ∧ j < k ∧ j + 1 < k_) → (gtr d (fun i => vl (ch (u - i))) k.toNat = gtr d (fun i => vl (ch (u - i))) (j + 1).toNat) → va_P D vwCl (arW T q n d ch mk) H → va_D A (arW T q n d ch mk) → va_S A s.heap H locs → lv_has ls 5 [(3, .int (iI (j))), (0, .ref (q 10)), (1, .int (iI (u))), (2, .int (iI (k)))] → W p l e (rmK 1) s m ([.ref (q 10), .int (iI (u)), .int (iI (k))] : List Value).toArray below meth cd H locs 0 0 Q (F0 m 4 ls []) := by
    intro k_
    induction k_ with
    | zero => intro j H locs ls hj hg _ _ _ _; exact absurd hj (by omega)
    | succ k_ ih1 =>
      intro j H locs ls hj hg hP hD hS hl
      refine lv_iload_n hx hb d_AR_isGreater_4 rfl (lv_at hl 0 rfl) ?_
      refine cx_if_lt (tgt := 49) hx hb d_AR_isGreater_5 rfl (by omega) (fun h5 => ?_) (fun h5 => ?_)
      · refine cx_iconst hx hb d_AR_isGreater_49 ?_
        exact hret () (Or.inl rfl) (Or.inr ⟨rfl, by rw [hg, show j + 1 = 0 by omega]; rfl⟩) hP hD hS d_AR_isGreater_50
      · have h1 := hd j (by omega) (by omega)
        have h2 := vl_in (hC.1 (u - j))
        refine lv_aload_n hx hb d_AR_isGreater_8 rfl (lv_at hl 1 rfl) ?_
        refine va_get (D := D) (ci := 0) (v := .ref (q 11)) (C := R_AR) (T := T_AR) (N := 2) hx hb hT lays_AR hown hK hP 0 rfl rfl 1 (by decide) (hT _ tw_72) (fun _ h9 => h9) rfl d_AR_isGreater_9 ?_
        refine lv_iload_n hx hb d_AR_isGreater_12 rfl (lv_at hl 0 rfl) ?_
        refine cx_iald (g := iF d) hx hb hK hP 1 0 rfl rfl (by omega) (by omega) d_AR_isGreater_13 ?_
        refine lv_aload_n hx hb d_AR_isGreater_14 rfl (lv_at hl 1 rfl) ?_
        refine va_get (D := D) (ci := 0) (v := .ref (q 1)) (C := R_AR) (T := T_AR) (N := 2) hx hb hT lays_AR hown hK hP 0 rfl rfl 0 (by decide) (hT _ tw_71) (fun _ h9 => h9) rfl d_AR_isGreater_15 ?_
        refine lv_iload_n hx hb d_AR_isGreater_18 rfl (lv_at hl 2 rfl) ?_
        refine lv_iload_n hx hb d_AR_isGreater_19 rfl (lv_at hl 0 rfl) ?_
        refine cx_isub hx hb d_AR_isGreater_20 ?_
        refine cx_cI (ws2 := fun _ => arW T q n d ch mk) (cx_rV (q0 := 2) (ci := 3) (rest := [.int (iI (d (j)))]) (As := [.int (iI (u - j))]) hx hb hml hown hT hK hN hP hD hl.1 tw_378 k_ST_digit (c_ST_digit l D T H.size q n ch mk hn hC (u - j) (by omega)) ⟨by decide, by decide⟩ ⟨rfl, rfl⟩ [2, 3] (by decide) rfl rfl rfl rfl rfl (Nat.le_of_ble_eq_true rfl) ⟨Nat.zero_le _, Nat.zero_le _⟩ d_AR_isGreater_21) hP hD hS hA [2, 3] [0, 1] [0, 1, 2, 3] rfl (wr := [(q 10, .inr (0, [.ref (q 1), .ref (q 11)])), (q 11, .inl (T 0, n, .inl (fun jj : Nat => (iF d) (jj : Int))))]) rfl (by decide) (by decide) (fun _ => rfl) (by decide) (fun r u_ H locs hq21 hP hD hS => ?_)
        subst hq21
        refine cx_isub hx hb d_AR_isGreater_24 ?_
        refine lv_istore (lv' := [(4, .int (iI ((d (j)) - (vl (ch (u - j)))))), (3, .int (iI (j))), (0, .ref (q 10)), (1, .int (iI (u))), (2, .int (iI (k)))]) hx hb d_AR_isGreater_25 hl (by decide) rfl (fun ls hl => ?_)
        refine lv_iload hx hb d_AR_isGreater_27 (lv_at hl 0 rfl) ?_
        refine cx_if_eq (tgt := 43) hx hb d_AR_isGreater_29 rfl (by omega) (fun h29 => ?_) (fun h29 => ?_)
        · refine cx_iinc (k := 1) (lv' := [(3, .int (iI (j + (-1)))), (4, .int (iI ((d (j)) - (vl (ch (u - j)))))), (0, .ref (q 10)), (1, .int (iI (u))), (2, .int (iI (k)))]) hx hb d_AR_isGreater_43 hl rfl (by decide) rfl (fun ls hl => ?_)
          refine lv_goto (tgt := 4) hx hb d_AR_isGreater_46 rfl ?_
          exact ih1 (j + -1) _ _ _ (by omega) (by rw [hg, gtr_step (by omega), if_pos (by omega), show j + -1 + 1 = j by omega]) hP hD hS (lv_sub hl [0, 2, 3, 4] rfl)
        · refine lv_iload hx hb d_AR_isGreater_32 (lv_at hl 0 rfl) ?_
          refine cx_if_le (tgt := 41) hx hb d_AR_isGreater_34 rfl (by omega) (fun h34 => ?_) (fun h34 => ?_)
          · refine cx_iconst hx hb d_AR_isGreater_41 ?_
            exact hret () (Or.inl rfl) (Or.inr ⟨rfl, by rw [hg, gtr_step (by omega), if_neg (by omega), if_neg (by omega)]⟩) hP hD hS d_AR_isGreater_42
          · refine cx_iconst hx hb d_AR_isGreater_37 ?_
            refine lv_goto (tgt := 42) hx hb d_AR_isGreater_38 rfl ?_
            exact hret () (Or.inr rfl) (Or.inl ⟨rfl, by rw [hg, gtr_step (by omega), if_neg (by omega), if_pos (by omega)]⟩) hP hD hS d_AR_isGreater_42
  exact L1 2001 (k - 1) _ _ _ (by omega) (by rw [show k - 1 + 1 = k by omega]) hP hD hS (lv_sub hl [0, 1, 2, 3] rfl)
