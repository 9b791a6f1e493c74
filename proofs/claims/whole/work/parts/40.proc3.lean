/-! the Processor's operations, second part -/
theorem rnk_in {c : Int} (h : 0 ≤ c ∧ c < 64) : 0 ≤ rnk c ∧ rnk c ≤ 127 := by unfold rnk; split <;> split <;> omega
theorem sgn_in (y z : Int) : -1 ≤ sgn y z ∧ sgn y z ≤ 1 := by
  unfold sgn
  split
  · omega
  · split <;> omega
/-- how the field at b stands to that at a, by the leftmost place that differs -/
def ord (ch : Int → Int) (a b : Int) : Nat → Int
  | 0 => 0
  | k + 1 => if sgn (rnk (ch (b - k))) (rnk (ch (a - k))) = 0 then ord ch a b k else sgn (rnk (ch (b - k))) (rnk (ch (a - k)))
theorem ord_step {ch : Int → Int} {a b j : Int} (h : 0 ≤ j) : ord ch a b (j + 1).toNat = if sgn (rnk (ch (b - j))) (rnk (ch (a - j))) = 0 then ord ch a b j.toNat else sgn (rnk (ch (b - j))) (rnk (ch (a - j))) := by
  rw [show (j + 1).toNat = j.toNat + 1 by omega, ord, Int.toNat_of_nonneg h]
theorem ord_in (ch : Int → Int) (a b : Int) : ∀ k : Nat, -1 ≤ ord ch a b k ∧ ord ch a b k ≤ 1
  | 0 => by show -1 ≤ (0 : Int) ∧ (0 : Int) ≤ 1; decide
  | k + 1 => by
    rw [ord]
    split
    · exact ord_in ch a b k
    · exact sgn_in _ _
def cmpK (x : SX) (k : Int) : Int × SX := if k = 0 then (2, x) else (0, up (up (up x 12 (cst (x 12 0 - k))) 13 (cst (x 13 0 - k))) 14 (cst (if x 1 (x 13 0 - k + 1) = 1 then ord (x 0) (x 12 0) (x 13 0) k.toNat else 1)))
def cmpS (n : Int) (x : SX) : Int × SX := cmpK x (cmn n (x 1) (x 12 0) (x 13 0) 2001 1)
/-- characters moved one after the other, that of the units without its zone -/
def zmN (ch : Int → Int) (a b : Int) : Nat → Int → Int
  | 0 => fu ch b (ch a % 16)
  | k + 1 => fu (zmN ch a b k) (b - (k + 1 : Nat)) (zmN ch a b k (a - (k + 1 : Nat)))
theorem zmN_step {ch : Int → Int} {a b j : Int} (h : 1 ≤ j) : fu (zmN ch a b (j - 1).toNat) (b - j) (zmN ch a b (j - 1).toNat (a - j)) = zmN ch a b (j + 1 - 1).toNat := by
  rw [show (j + 1 - 1).toNat = (j - 1).toNat + 1 by omega, zmN, show (((j - 1).toNat + 1 : Nat) : Int) = j by omega]
/-- blanks come from the left in place of 10, 0 and 27 -/
def spZ (b : Int) : Nat → (Int → Int) → (Int → Int)
  | 0, ch => ch
  | k + 1, ch => if ch (b - k) = 10 ∨ ch (b - k) = 0 ∨ ch (b - k) = 27 then spZ b k (fu ch (b - k) 0) else ch
theorem spZ_step {b j : Int} {ch : Int → Int} (h : 0 ≤ j) : spZ b (j + 1).toNat ch = if ch (b - j) = 10 ∨ ch (b - j) = 0 ∨ ch (b - j) = 27 then spZ b j.toNat (fu ch (b - j) 0) else ch := by
  rw [show (j + 1).toNat = j.toNat + 1 by omega, spZ, Int.toNat_of_nonneg h]
theorem spZ_end {b j : Int} {ch : Int → Int} (h : j < 0) : spZ b (j + 1).toNat ch = ch := by
  rw [show (j + 1).toNat = 0 by omega, spZ]
def supK (n : Int) (x : SX) (k : Int) : Int × SX := if k = 0 ∨ ¬ ((0 ≤ x 13 0 ∧ x 13 0 < n) ∧ k - 1 ≤ x 13 0) then (2, x) else (0, up (up (up x 0 (spZ (x 13 0) k.toNat (zmN (x 0) (x 12 0) (x 13 0) (k - 1).toNat))) 12 (cst (x 12 0 - k))) 13 (cst (x 13 0 + 1)))
def supS (n : Int) (x : SX) : Int × SX := supK n x (fld n (x 1) (x 12 0) (n + 1) 2001 1)
theorem bool_of {v : Int} (h : v = 0 ∨ v = 1) : iI v = iI 0 ∨ iI v = iI 1 := by rcases h with rfl | rfl <;> simp
def ind (v : Int) (x : SX) : Int := if v = 0 then 1 else if v = 17 then (if x 14 0 = 0 then 0 else 1) else if v = 18 then (if x 14 0 = 0 then 1 else 0) else if v = 19 then (if x 14 0 < 0 then 1 else 0) else if v = 20 then (if 0 < x 14 0 then 1 else 0) else if v = 25 then x 15 0 else if v = 49 then x 16 0 else 0
def ovo (v : Int) (x : SX) : SX := if v = 25 then up x 15 (cst 0) else x
theorem ind_in (v : Int) {x : SX} (h : okX x) : ind v x = 0 ∨ ind v x = 1 := by
  have h8 := h.2.1
  unfold okR at h8
  unfold ind
  repeat (first | omega | split)
def brnS (n k : Int) (x : SX) : Int × SX := if k = 8 then (if 0 ≤ x 13 0 ∧ x 13 0 < n then (0, gof (if x 0 (x 13 0) = x 0 (x 11 0 - 1) then 1 else 0) (up x 13 (cst (x 13 0 - 1)))) else (2, x)) else if k = 5 then (0, gof (ind (x 0 (x 11 0 - 1)) x) (ovo (x 0 (x 11 0 - 1)) x)) else (0, goS x)
def asd (m c v : Int) : Int := if v = 1 then m else if v = 2 ∨ v = 50 ∨ v = 34 ∨ v = 18 then (if zn c = zn v then 1 else 0) else if v = 3 ∨ v = 51 ∨ v = 35 ∨ v = 19 then (if m = 1 ∨ zn c = zn v then 1 else 0) else 0
theorem asd_in (m c v : Int) (h : m = 0 ∨ m = 1) : asd m c v = 0 ∨ asd m c v = 1 := by
  unfold asd
  repeat (first | omega | split)
def bpsS (n : Int) (x : SX) : Int × SX := if 0 ≤ x 13 0 ∧ x 13 0 < n then (0, gof (asd (x 1 (x 13 0)) (x 0 (x 13 0)) (x 0 (x 11 0 - 1))) (up x 13 (cst (x 13 0 - 1)))) else (2, x)
theorem sw_isIndicated_68 : ∀ k : Fin 64, ((k.val : Int) = 0) → lsw 131 #[(0, 67), (17, 69), (18, 82), (19, 95), (20, 108), (25, 121), (49, 126)] (k.val : Int) = 67 := by decide +kernel
theorem sw_isIndicated_70 : ∀ k : Fin 64, ((k.val : Int) = 17) → lsw 131 #[(0, 67), (17, 69), (18, 82), (19, 95), (20, 108), (25, 121), (49, 126)] (k.val : Int) = 69 := by decide +kernel
theorem sw_isIndicated_83 : ∀ k : Fin 64, ((k.val : Int) = 18) → lsw 131 #[(0, 67), (17, 69), (18, 82), (19, 95), (20, 108), (25, 121), (49, 126)] (k.val : Int) = 82 := by decide +kernel
theorem sw_isIndicated_96 : ∀ k : Fin 64, ((k.val : Int) = 19) → lsw 131 #[(0, 67), (17, 69), (18, 82), (19, 95), (20, 108), (25, 121), (49, 126)] (k.val : Int) = 95 := by decide +kernel
theorem sw_isIndicated_109 : ∀ k : Fin 64, ((k.val : Int) = 20) → lsw 131 #[(0, 67), (17, 69), (18, 82), (19, 95), (20, 108), (25, 121), (49, 126)] (k.val : Int) = 108 := by decide +kernel
theorem sw_isIndicated_122 : ∀ k : Fin 64, ((k.val : Int) = 25) → lsw 131 #[(0, 67), (17, 69), (18, 82), (19, 95), (20, 108), (25, 121), (49, 126)] (k.val : Int) = 121 := by decide +kernel
theorem sw_isIndicated_127 : ∀ k : Fin 64, ((k.val : Int) = 49) → lsw 131 #[(0, 67), (17, 69), (18, 82), (19, 95), (20, 108), (25, 121), (49, 126)] (k.val : Int) = 126 := by decide +kernel
theorem sw_isIndicated_d : ∀ k : Fin 64, ¬ ((k.val : Int) = 0 ∨ (k.val : Int) = 17 ∨ (k.val : Int) = 18 ∨ (k.val : Int) = 19 ∨ (k.val : Int) = 20 ∨ (k.val : Int) = 25 ∨ (k.val : Int) = 49) → lsw 131 #[(0, 67), (17, 69), (18, 82), (19, 95), (20, 108), (25, 121), (49, 126)] (k.val : Int) = 131 := by decide +kernel
theorem sw_isAsAsked_104 : ∀ k : Fin 64, ((k.val : Int) = 1) → lsw 114 #[(1, 82), (2, 91), (3, 93), (18, 91), (19, 93), (34, 91), (35, 93), (50, 91), (51, 93)] (k.val : Int) = 82 := by decide +kernel
theorem sw_isAsAsked_113 : ∀ k : Fin 64, ((k.val : Int) = 2 ∨ (k.val : Int) = 18 ∨ (k.val : Int) = 34 ∨ (k.val : Int) = 50) → lsw 114 #[(1, 82), (2, 91), (3, 93), (18, 91), (19, 93), (34, 91), (35, 93), (50, 91), (51, 93)] (k.val : Int) = 91 := by decide +kernel
theorem sw_isAsAsked_115 : ∀ k : Fin 64, ((k.val : Int) = 3 ∨ (k.val : Int) = 19 ∨ (k.val : Int) = 35 ∨ (k.val : Int) = 51) → lsw 114 #[(1, 82), (2, 91), (3, 93), (18, 91), (19, 93), (34, 91), (35, 93), (50, 91), (51, 93)] (k.val : Int) = 93 := by decide +kernel
theorem sw_isAsAsked_d : ∀ k : Fin 64, ¬ ((k.val : Int) = 1 ∨ (k.val : Int) = 2 ∨ (k.val : Int) = 18 ∨ (k.val : Int) = 34 ∨ (k.val : Int) = 50 ∨ (k.val : Int) = 3 ∨ (k.val : Int) = 19 ∨ (k.val : Int) = 35 ∨ (k.val : Int) = 51) → lsw 114 #[(1, 82), (2, 91), (3, 93), (18, 91), (19, 93), (34, 91), (35, 93), (50, 91), (51, 93)] (k.val : Int) = 114 := by decide +kernel
set_option maxHeartbeats 4000000 in
set_option maxRecDepth 100000 in
theorem c_PR_orderOf (l : Launch) (D : va_G) (T : Nat → ClassId) (sz : Nat) (q : Nat → Nat) (n : Nat) (hn : 400 ≤ n ∧ n ≤ 2000) (d : Int → Int) (x : SX) (hX : okX x) (k : Int) (hk : 1 ≤ k ∧ (k ≤ x 12 0 + 1 ∧ (0 ≤ x 12 0 ∧ x 12 0 < n)) ∧ (k ≤ x 13 0 + 1 ∧ (0 ≤ x 13 0 ∧ x 13 0 < n))) : MI l y_PR_orderOf (wY y_PR_orderOf b_PR_orderOf 4 (some .int)) (rmK 1) D vwCl (tyL T) nwL sz [.ref (q 9), .int (iI (k))] (prW T q n d (x 0) (x 1) (x 2) (x 3) (x 4) (x 11 0) (x 12 0) (x 13 0) (x 14 0) (x 15 0) (x 16 0) (x 17 0) (x 18 0) (x 19 0) (x 20 0)) (fun r (_ : Unit) => r = iI (ord (x 0) (x 12 0) (x 13 0) k.toNat)) (fun _ => prX T q n d x) := by
  refine cx_inI (by decide) rfl (Nat.le_of_ble_eq_true rfl) ?_
  intro p e s m below meth cd ls A Q hx hb hml hT hown hret hP hK hD hN hS hA hl
  have hown : s.vm.findClass R_PR = some m.cls := hown
  have hl : lv_has ls 4 [(0, .ref (q 9)), (1, .int (iI (k)))] := hl
  have hC := hX.1
  have hR0 := hX.2.1
  have hF := hX.2.2
  unfold okR at hR0
  refine lv_iload_n hx hb d_PR_orderOf_0 rfl (lv_at hl 1 rfl) ?_
  refine cx_iconst hx hb d_PR_orderOf_1 ?_
  refine cx_isub hx hb d_PR_orderOf_2 ?_
  refine lv_istore_n (lv' := [(2, .int (iI (k - 1))), (0, .ref (q 9)), (1, .int (iI (k)))]) hx hb d_PR_orderOf_3 rfl hl (by decide) rfl (fun ls hl => ?_)
  have L1 : ∀ (k_ : Nat) (j : Int) (H : Heap) (locs : List Loc) (ls : Array Slot), (-1 ≤ j ∧ j < k ∧ j + 1 < k_) → (ord (x 0) (x 12 0) (x 13 0) k.toNat = ord (x 0) (x 12 0) (x 13 0) (j + 1).toNat) → va_P D vwCl (prW T q n d (x 0) (x 1) (x 2) (x 3) (x 4) (x 11 0) (x 12 0) (x 13 0) (x 14 0) (x 15 0) (x 16 0) (x 17 0) (x 18 0) (x 19 0) (x 20 0)) H → va_D A (prW T q n d (x 0) (x 1) (x 2) (x 3) (x 4) (x 11 0) (x 12 0) (x 13 0) (x 14 0) (x 15 0) (x 16 0) (x 17 0) (x 18 0) (x 19 0) (x 20 0)) → va_S A s.heap H locs → lv_has ls 4 [(2, .int (iI (j))), (0, .ref (q 9)), (1, .int (iI (k)))] → W p l e (rmK 1) s m ([.ref (q 9), .int (iI (k))] : List Value).toArray below meth cd H locs 0 0 Q (F0 m 4 ls []) := by
    intro k_
    induction k_ with
    | zero => intro j H locs ls hj hg _ _ _ _; exact absurd hj (by omega)
    | succ k_ ih1 =>
      intro j H locs ls hj hg hP hD hS hl
      refine lv_iload_n hx hb d_PR_orderOf_4 rfl (lv_at hl 0 rfl) ?_
      refine cx_if_lt (tgt := 56) hx hb d_PR_orderOf_5 rfl (by omega) (fun h5 => ?_) (fun h5 => ?_)
      · refine cx_iconst hx hb d_PR_orderOf_56 ?_
        exact hret () (by rw [hg, show j + 1 = 0 by omega]; rfl) hP hD hS d_PR_orderOf_57
      · have h1 := hC.1 (x 13 0 - j)
        have h2 := hC.1 (x 12 0 - j)
        have h3 := rnk_in h1
        have h4 := rnk_in h2
        have h5 := sgn_in (rnk (x 0 (x 13 0 - j))) (rnk (x 0 (x 12 0 - j)))
        refine lv_aload_n hx hb d_PR_orderOf_8 rfl (lv_at hl 1 rfl) ?_
        refine va_get (D := D) (ci := 2) (v := .ref (q 1)) (C := R_PR) (T := T_PR) (N := 12) hx hb hT lays_PR hown hK hP 0 rfl rfl 0 (by decide) (hT _ tw_78) (fun _ h9 => h9) rfl d_PR_orderOf_9 ?_
        refine lv_aload_n hx hb d_PR_orderOf_12 rfl (lv_at hl 1 rfl) ?_
        refine va_get (D := D) (ci := 2) (v := .int (iI (x 13 0))) (C := R_PR) (T := T_PR) (N := 12) hx hb hT lays_PR hown hK hP 0 rfl rfl 7 (by decide) (hT _ tw_87) (fun _ h9 => h9) rfl d_PR_orderOf_13 ?_
        refine lv_iload_n hx hb d_PR_orderOf_16 rfl (lv_at hl 0 rfl) ?_
        refine cx_isub hx hb d_PR_orderOf_17 ?_
        refine cx_cI (ws2 := fun _ => prW T q n d (x 0) (x 1) (x 2) (x 3) (x 4) (x 11 0) (x 12 0) (x 13 0) (x 14 0) (x 15 0) (x 16 0) (x 17 0) (x 18 0) (x 19 0) (x 20 0)) (cx_rV (q0 := 9) (ci := 3) (rest := []) (As := [.int (iI ((x 13 0) - j))]) hx hb hml hown hT hK hN hP hD hl.1 tw_322 k_ST_character (c_ST_character l D T H.size q n (x 0) (x 1) hn hC ((x 13 0) - j) (by omega)) ⟨by decide, by decide⟩ ⟨rfl, rfl⟩ [9, 10] (by decide) rfl rfl rfl rfl rfl (Nat.le_of_ble_eq_true rfl) ⟨Nat.zero_le _, Nat.zero_le _⟩ d_PR_orderOf_18) hP hD hS hA [9, 10] [0, 1, 2, 3, 4, 5, 6, 7, 8] [0, 1, 2, 3, 4, 5, 6, 7, 8, 9, 10] rfl (wr := [(q 9, .inr (2, [.ref (q 1), .ref (q 3), .ref (q 5), .ref (q 7), .ref (q 10), .int (iI (x 11 0)), .int (iI (x 12 0)), .int (iI (x 13 0)), .int (iI (x 14 0)), .int (iI (x 15 0)), .int (iI (x 16 0)), .int (iI (x 17 0))])), (q 3, .inr (1, [.int (iI (20)), .int (iI (80)), .ref (q 4), .int (iI (x 18 0))])), (q 4, .inl (T 0, 1680, .inl (fun jj : Nat => (iF (x 2)) (jj : Int)))), (q 5, .inr (1, [.int (iI (40)), .int (iI (132)), .ref (q 6), .int (iI (x 19 0))])), (q 6, .inl (T 0, 5412, .inl (fun jj : Nat => (iF (x 3)) (jj : Int)))), (q 7, .inr (1, [.int (iI (20)), .int (iI (80)), .ref (q 8), .int (iI (x 20 0))])), (q 8, .inl (T 0, 1680, .inl (fun jj : Nat => (iF (x 4)) (jj : Int)))), (q 10, .inr (0, [.ref (q 1), .ref (q 11)])), (q 11, .inl (T 0, n, .inl (fun jj : Nat => (iF d) (jj : Int))))]) rfl (by decide) (by decide) (fun _ => rfl) (by decide) (fun r u_ H locs hq18 hP hD hS => ?_)
        subst hq18
        refine cx_cI (ws2 := fun _ => prW T q n d (x 0) (x 1) (x 2) (x 3) (x 4) (x 11 0) (x 12 0) (x 13 0) (x 14 0) (x 15 0) (x 16 0) (x 17 0) (x 18 0) (x 19 0) (x 20 0)) (cx_rS (rest := []) (As := [.int (iI ((x 0) ((x 13 0) - j)))]) hx hb hml hown hT hK hN hP hD hl.1 tw_455 k_PR_rank (c_PR_rank l D T H.size ((x 0) ((x 13 0) - j)) (by omega)) ⟨by decide, by decide⟩ ⟨rfl, rfl⟩ [] (by decide) rfl rfl rfl (Nat.le_of_ble_eq_true rfl) ⟨Nat.zero_le _, Nat.zero_le _⟩ d_PR_orderOf_21) hP hD hS hA [] [0, 1, 2, 3, 4, 5, 6, 7, 8, 9, 10] [0, 1, 2, 3, 4, 5, 6, 7, 8, 9, 10] rfl (wr := [(q 9, .inr (2, [.ref (q 1), .ref (q 3), .ref (q 5), .ref (q 7), .ref (q 10), .int (iI (x 11 0)), .int (iI (x 12 0)), .int (iI (x 13 0)), .int (iI (x 14 0)), .int (iI (x 15 0)), .int (iI (x 16 0)), .int (iI (x 17 0))])), (q 3, .inr (1, [.int (iI (20)), .int (iI (80)), .ref (q 4), .int (iI (x 18 0))])), (q 4, .inl (T 0, 1680, .inl (fun jj : Nat => (iF (x 2)) (jj : Int)))), (q 5, .inr (1, [.int (iI (40)), .int (iI (132)), .ref (q 6), .int (iI (x 19 0))])), (q 6, .inl (T 0, 5412, .inl (fun jj : Nat => (iF (x 3)) (jj : Int)))), (q 7, .inr (1, [.int (iI (20)), .int (iI (80)), .ref (q 8), .int (iI (x 20 0))])), (q 8, .inl (T 0, 1680, .inl (fun jj : Nat => (iF (x 4)) (jj : Int)))), (q 10, .inr (0, [.ref (q 1), .ref (q 11)])), (q 11, .inl (T 0, n, .inl (fun jj : Nat => (iF d) (jj : Int)))), (q 1, .inr (3, [.ref (q 2)])), (q 2, .inl (T 0, n, .inl (fun jj : Nat => (ceF (x 0) (x 1)) (jj : Int))))]) rfl (by decide) (by decide) (fun _ => rfl) (by decide) (fun r u_ H locs hq21 hP hD hS => ?_)
        subst hq21
        refine lv_aload_n hx hb d_PR_orderOf_24 rfl (lv_at hl 1 rfl) ?_
        refine va_get (D := D) (ci := 2) (v := .ref (q 1)) (C := R_PR) (T := T_PR) (N := 12) hx hb hT lays_PR hown hK hP 0 rfl rfl 0 (by decide) (hT _ tw_78) (fun _ h9 => h9) rfl d_PR_orderOf_25 ?_
        refine lv_aload_n hx hb d_PR_orderOf_28 rfl (lv_at hl 1 rfl) ?_
        refine va_get (D := D) (ci := 2) (v := .int (iI (x 12 0))) (C := R_PR) (T := T_PR) (N := 12) hx hb hT lays_PR hown hK hP 0 rfl rfl 6 (by decide) (hT _ tw_85) (fun _ h9 => h9) rfl d_PR_orderOf_29 ?_
        refine lv_iload_n hx hb d_PR_orderOf_32 rfl (lv_at hl 0 rfl) ?_
        refine cx_isub hx hb d_PR_orderOf_33 ?_
        refine cx_cI (ws2 := fun _ => prW T q n d (x 0) (x 1) (x 2) (x 3) (x 4) (x 11 0) (x 12 0) (x 13 0) (x 14 0) (x 15 0) (x 16 0) (x 17 0) (x 18 0) (x 19 0) (x 20 0)) (cx_rV (q0 := 9) (ci := 3) (rest := [.int (iI (rnk ((x 0) ((x 13 0) - j))))]) (As := [.int (iI ((x 12 0) - j))]) hx hb hml hown hT hK hN hP hD hl.1 tw_322 k_ST_character (c_ST_character l D T H.size q n (x 0) (x 1) hn hC ((x 12 0) - j) (by omega)) ⟨by decide, by decide⟩ ⟨rfl, rfl⟩ [9, 10] (by decide) rfl rfl rfl rfl rfl (Nat.le_of_ble_eq_true rfl) ⟨Nat.zero_le _, Nat.zero_le _⟩ d_PR_orderOf_34) hP hD hS hA [9, 10] [0, 1, 2, 3, 4, 5, 6, 7, 8] [0, 1, 2, 3, 4, 5, 6, 7, 8, 9, 10] rfl (wr := [(q 9, .inr (2, [.ref (q 1), .ref (q 3), .ref (q 5), .ref (q 7), .ref (q 10), .int (iI (x 11 0)), .int (iI (x 12 0)), .int (iI (x 13 0)), .int (iI (x 14 0)), .int (iI (x 15 0)), .int (iI (x 16 0)), .int (iI (x 17 0))])), (q 3, .inr (1, [.int (iI (20)), .int (iI (80)), .ref (q 4), .int (iI (x 18 0))])), (q 4, .inl (T 0, 1680, .inl (fun jj : Nat => (iF (x 2)) (jj : Int)))), (q 5, .inr (1, [.int (iI (40)), .int (iI (132)), .ref (q 6), .int (iI (x 19 0))])), (q 6, .inl (T 0, 5412, .inl (fun jj : Nat => (iF (x 3)) (jj : Int)))), (q 7, .inr (1, [.int (iI (20)), .int (iI (80)), .ref (q 8), .int (iI (x 20 0))])), (q 8, .inl (T 0, 1680, .inl (fun jj : Nat => (iF (x 4)) (jj : Int)))), (q 10, .inr (0, [.ref (q 1), .ref (q 11)])), (q 11, .inl (T 0, n, .inl (fun jj : Nat => (iF d) (jj : Int))))]) rfl (by decide) (by decide) (fun _ => rfl) (by decide) (fun r u_ H locs hq34 hP hD hS => ?_)
        subst hq34
        refine cx_cI (ws2 := fun _ => prW T q n d (x 0) (x 1) (x 2) (x 3) (x 4) (x 11 0) (x 12 0) (x 13 0) (x 14 0) (x 15 0) (x 16 0) (x 17 0) (x 18 0) (x 19 0) (x 20 0)) (cx_rS (rest := [.int (iI (rnk ((x 0) ((x 13 0) - j))))]) (As := [.int (iI ((x 0) ((x 12 0) - j)))]) hx hb hml hown hT hK hN hP hD hl.1 tw_455 k_PR_rank (c_PR_rank l D T H.size ((x 0) ((x 12 0) - j)) (by omega)) ⟨by decide, by decide⟩ ⟨rfl, rfl⟩ [] (by decide) rfl rfl rfl (Nat.le_of_ble_eq_true rfl) ⟨Nat.zero_le _, Nat.zero_le _⟩ d_PR_orderOf_37) hP hD hS hA [] [0, 1, 2, 3, 4, 5, 6, 7, 8, 9, 10] [0, 1, 2, 3, 4, 5, 6, 7, 8, 9, 10] rfl (wr := [(q 9, .inr (2, [.ref (q 1), .ref (q 3), .ref (q 5), .ref (q 7), .ref (q 10), .int (iI (x 11 0)), .int (iI (x 12 0)), .int (iI (x 13 0)), .int (iI (x 14 0)), .int (iI (x 15 0)), .int (iI (x 16 0)), .int (iI (x 17 0))])), (q 3, .inr (1, [.int (iI (20)), .int (iI (80)), .ref (q 4), .int (iI (x 18 0))])), (q 4, .inl (T 0, 1680, .inl (fun jj : Nat => (iF (x 2)) (jj : Int)))), (q 5, .inr (1, [.int (iI (40)), .int (iI (132)), .ref (q 6), .int (iI (x 19 0))])), (q 6, .inl (T 0, 5412, .inl (fun jj : Nat => (iF (x 3)) (jj : Int)))), (q 7, .inr (1, [.int (iI (20)), .int (iI (80)), .ref (q 8), .int (iI (x 20 0))])), (q 8, .inl (T 0, 1680, .inl (fun jj : Nat => (iF (x 4)) (jj : Int)))), (q 10, .inr (0, [.ref (q 1), .ref (q 11)])), (q 11, .inl (T 0, n, .inl (fun jj : Nat => (iF d) (jj : Int)))), (q 1, .inr (3, [.ref (q 2)])), (q 2, .inl (T 0, n, .inl (fun jj : Nat => (ceF (x 0) (x 1)) (jj : Int))))]) rfl (by decide) (by decide) (fun _ => rfl) (by decide) (fun r u_ H locs hq37 hP hD hS => ?_)
        subst hq37
        refine cx_cI (ws2 := fun _ => prW T q n d (x 0) (x 1) (x 2) (x 3) (x 4) (x 11 0) (x 12 0) (x 13 0) (x 14 0) (x 15 0) (x 16 0) (x 17 0) (x 18 0) (x 19 0) (x 20 0)) (cx_rS (rest := []) (As := [.int (iI (rnk ((x 0) ((x 13 0) - j)))), .int (iI (rnk ((x 0) ((x 12 0) - j))))]) hx hb hml hown hT hK hN hP hD hl.1 tw_458 k_JI_compare (c_JI_compare l D T H.size (rnk ((x 0) ((x 13 0) - j))) (rnk ((x 0) ((x 12 0) - j))) (by omega) (by omega)) ⟨by decide, by decide⟩ ⟨rfl, rfl⟩ [] (by decide) rfl rfl rfl (Nat.le_of_ble_eq_true rfl) ⟨Nat.zero_le _, Nat.zero_le _⟩ d_PR_orderOf_40) hP hD hS hA [] [0, 1, 2, 3, 4, 5, 6, 7, 8, 9, 10] [0, 1, 2, 3, 4, 5, 6, 7, 8, 9, 10] rfl (wr := [(q 9, .inr (2, [.ref (q 1), .ref (q 3), .ref (q 5), .ref (q 7), .ref (q 10), .int (iI (x 11 0)), .int (iI (x 12 0)), .int (iI (x 13 0)), .int (iI (x 14 0)), .int (iI (x 15 0)), .int (iI (x 16 0)), .int (iI (x 17 0))])), (q 3, .inr (1, [.int (iI (20)), .int (iI (80)), .ref (q 4), .int (iI (x 18 0))])), (q 4, .inl (T 0, 1680, .inl (fun jj : Nat => (iF (x 2)) (jj : Int)))), (q 5, .inr (1, [.int (iI (40)), .int (iI (132)), .ref (q 6), .int (iI (x 19 0))])), (q 6, .inl (T 0, 5412, .inl (fun jj : Nat => (iF (x 3)) (jj : Int)))), (q 7, .inr (1, [.int (iI (20)), .int (iI (80)), .ref (q 8), .int (iI (x 20 0))])), (q 8, .inl (T 0, 1680, .inl (fun jj : Nat => (iF (x 4)) (jj : Int)))), (q 10, .inr (0, [.ref (q 1), .ref (q 11)])), (q 11, .inl (T 0, n, .inl (fun jj : Nat => (iF d) (jj : Int)))), (q 1, .inr (3, [.ref (q 2)])), (q 2, .inl (T 0, n, .inl (fun jj : Nat => (ceF (x 0) (x 1)) (jj : Int))))]) rfl (by decide) (by decide) (fun _ => rfl) (by decide) (fun r u_ H locs hq40 hP hD hS => ?_)
        subst hq40
        refine lv_istore_n (lv' := [(3, .int (iI (sgn (rnk ((x 0) ((x 13 0) - j))) (rnk ((x 0) ((x 12 0) - j)))))), (2, .int (iI (j))), (0, .ref (q 9)), (1, .int (iI (k)))]) hx hb d_PR_orderOf_43 rfl hl (by decide) rfl (fun ls hl => ?_)
        refine lv_iload_n hx hb d_PR_orderOf_44 rfl (lv_at hl 0 rfl) ?_
        refine cx_if_eq (tgt := 50) hx hb d_PR_orderOf_45 rfl (by omega) (fun h45 => ?_) (fun h45 => ?_)
        · refine cx_iinc (k := 1) (lv' := [(2, .int (iI (j + (-1)))), (3, .int (iI (sgn (rnk ((x 0) ((x 13 0) - j))) (rnk ((x 0) ((x 12 0) - j)))))), (0, .ref (q 9)), (1, .int (iI (k)))]) hx hb d_PR_orderOf_50 hl rfl (by decide) rfl (fun ls hl => ?_)
          refine lv_goto (tgt := 4) hx hb d_PR_orderOf_53 rfl ?_
          exact ih1 (j + -1) _ _ _ (by omega) (by rw [hg, ord_step (by omega), if_pos h45, show j + -1 + 1 = j by omega]) hP hD hS (lv_sub hl [0, 2, 3] rfl)
        · refine lv_iload_n hx hb d_PR_orderOf_48 rfl (lv_at hl 0 rfl) ?_
          exact hret () (by rw [hg, ord_step (by omega), if_neg h45]) hP hD hS d_PR_orderOf_49
  exact L1 2001 (k - 1) _ _ _ (by omega) (by rw [show k - 1 + 1 = k by omega]) hP hD hS (lv_sub hl [0, 1, 2] rfl)

set_option maxHeartbeats 4000000 in
set_option maxRecDepth 100000 in
theorem c_PR_compare (l : Launch) (D : va_G) (T : Nat → ClassId) (sz : Nat) (q : Nat → Nat) (n : Nat) (hn : 400 ≤ n ∧ n ≤ 2000) (d : Int → Int) (x : SX) (hX : okX x) : MI l y_PR_compare (wY y_PR_compare b_PR_compare 2 (some .int)) (rmK 2) D vwCl (tyL T) nwL sz [.ref (q 9)] (prW T q n d (x 0) (x 1) (x 2) (x 3) (x 4) (x 11 0) (x 12 0) (x 13 0) (x 14 0) (x 15 0) (x 16 0) (x 17 0) (x 18 0) (x 19 0) (x 20 0)) (fun r u => pst (cmpS n x) r u) (fun u => prX T q n d u) := by
  refine cx_inI (by decide) rfl (Nat.le_of_ble_eq_true rfl) ?_
  intro p e s m below meth cd ls A Q hx hb hml hT hown hret hP hK hD hN hS hA hl
  have hown : s.vm.findClass R_PR = some m.cls := hown
  have hl : lv_has ls 2 [(0, .ref (q 9))] := hl
  have hC := hX.1
  have hR0 := hX.2.1
  have hF := hX.2.2
  unfold okR at hR0
  refine lv_aload_n hx hb d_PR_compare_0 rfl (lv_at hl 0 rfl) ?_
  refine va_get (D := D) (ci := 2) (v := .ref (q 1)) (C := R_PR) (T := T_PR) (N := 12) hx hb hT lays_PR hown hK hP 0 rfl rfl 0 (by decide) (hT _ tw_78) (fun _ h9 => h9) rfl d_PR_compare_1 ?_
  refine lv_aload_n hx hb d_PR_compare_4 rfl (lv_at hl 0 rfl) ?_
  refine va_get (D := D) (ci := 2) (v := .int (iI (x 12 0))) (C := R_PR) (T := T_PR) (N := 12) hx hb hT lays_PR hown hK hP 0 rfl rfl 6 (by decide) (hT _ tw_85) (fun _ h9 => h9) rfl d_PR_compare_5 ?_
  refine lv_aload_n hx hb d_PR_compare_8 rfl (lv_at hl 0 rfl) ?_
  refine va_get (D := D) (ci := 2) (v := .int (iI (x 13 0))) (C := R_PR) (T := T_PR) (N := 12) hx hb hT lays_PR hown hK hP 0 rfl rfl 7 (by decide) (hT _ tw_87) (fun _ h9 => h9) rfl d_PR_compare_9 ?_
  refine cx_cI (ws2 := fun _ => prW T q n d (x 0) (x 1) (x 2) (x 3) (x 4) (x 11 0) (x 12 0) (x 13 0) (x 14 0) (x 15 0) (x 16 0) (x 17 0) (x 18 0) (x 19 0) (x 20 0)) (cx_rV (q0 := 9) (ci := 3) (rest := []) (As := [.int (iI (x 12 0)), .int (iI (x 13 0))]) hx hb hml hown hT hK hN hP hD hl.1 tw_420 k_ST_commonLength (c_ST_commonLength l D T s.heap.size q n (x 0) (x 1) hn hC (x 12 0) (x 13 0) (by omega) (by omega)) ⟨by decide, by decide⟩ ⟨rfl, rfl⟩ [9, 10] (by decide) rfl rfl rfl rfl rfl (Nat.le_of_ble_eq_true rfl) ⟨Nat.zero_le _, Nat.zero_le _⟩ d_PR_compare_12) hP hD hS hA [9, 10] [0, 1, 2, 3, 4, 5, 6, 7, 8] [0, 1, 2, 3, 4, 5, 6, 7, 8, 9, 10] rfl (wr := [(q 9, .inr (2, [.ref (q 1), .ref (q 3), .ref (q 5), .ref (q 7), .ref (q 10), .int (iI (x 11 0)), .int (iI (x 12 0)), .int (iI (x 13 0)), .int (iI (x 14 0)), .int (iI (x 15 0)), .int (iI (x 16 0)), .int (iI (x 17 0))])), (q 3, .inr (1, [.int (iI (20)), .int (iI (80)), .ref (q 4), .int (iI (x 18 0))])), (q 4, .inl (T 0, 1680, .inl (fun jj : Nat => (iF (x 2)) (jj : Int)))), (q 5, .inr (1, [.int (iI (40)), .int (iI (132)), .ref (q 6), .int (iI (x 19 0))])), (q 6, .inl (T 0, 5412, .inl (fun jj : Nat => (iF (x 3)) (jj : Int)))), (q 7, .inr (1, [.int (iI (20)), .int (iI (80)), .ref (q 8), .int (iI (x 20 0))])), (q 8, .inl (T 0, 1680, .inl (fun jj : Nat => (iF (x 4)) (jj : Int)))), (q 10, .inr (0, [.ref (q 1), .ref (q 11)])), (q 11, .inl (T 0, n, .inl (fun jj : Nat => (iF d) (jj : Int))))]) rfl (by decide) (by decide) (fun _ => rfl) (by decide) (fun r u_ H locs hq12 hP hD hS => ?_)
  subst hq12
  refine lv_istore_n (lv' := [(1, .int (iI (flr (cmn n (x 1) (x 12 0) (x 13 0) 2001 1)))), (0, .ref (q 9))]) hx hb d_PR_compare_15 rfl hl (by decide) rfl (fun ls hl => ?_)
  obtain ⟨k, hk⟩ : ∃ z, z = cmn n (x 1) (x 12 0) (x 13 0) 2001 1 := ⟨_, rfl⟩
  rw [← hk] at hl
  have hk1 := cmn_in hk
  have hk2 := flr_in k (by omega)
  refine lv_iload_n hx hb d_PR_compare_16 rfl (lv_at hl 0 rfl) ?_
  refine cx_iconst hx hb d_PR_compare_17 ?_
  refine cx_icmp_ne (tgt := 23) hx hb d_PR_compare_18 rfl (by omega) (by omega) (fun h18 => ?_) (fun h18 => ?_)
  · have hk3 : flr k = k := flr_pos (by omega)
    rw [hk3] at hl h18
    have hod := ord_in (x 0) (x 12 0) (x 13 0) k.toNat
    refine lv_aload_n hx hb d_PR_compare_23 rfl (lv_at hl 1 rfl) ?_
    refine lv_aload_n hx hb d_PR_compare_24 rfl (lv_at hl 1 rfl) ?_
    refine va_get (D := D) (ci := 2) (v := .ref (q 1)) (C := R_PR) (T := T_PR) (N := 12) hx hb hT lays_PR hown hK hP 0 rfl rfl 0 (by decide) (hT _ tw_78) (fun _ h9 => h9) rfl d_PR_compare_25 ?_
    refine lv_aload_n hx hb d_PR_compare_28 rfl (lv_at hl 1 rfl) ?_
    refine va_get (D := D) (ci := 2) (v := .int (iI (x 13 0))) (C := R_PR) (T := T_PR) (N := 12) hx hb hT lays_PR hown hK hP 0 rfl rfl 7 (by decide) (hT _ tw_87) (fun _ h9 => h9) rfl d_PR_compare_29 ?_
    refine lv_iload_n hx hb d_PR_compare_32 rfl (lv_at hl 0 rfl) ?_
    refine cx_isub hx hb d_PR_compare_33 ?_
    refine cx_iconst hx hb d_PR_compare_34 ?_
    refine cx_iadd hx hb d_PR_compare_35 ?_
    refine cx_cI (ws2 := fun _ => prW T q n d (x 0) (x 1) (x 2) (x 3) (x 4) (x 11 0) (x 12 0) (x 13 0) (x 14 0) (x 15 0) (x 16 0) (x 17 0) (x 18 0) (x 19 0) (x 20 0)) (cx_rV (q0 := 9) (ci := 3) (rest := [.ref (q 9)]) (As := [.int (iI (((x 13 0) - k) + 1))]) hx hb hml hown hT hK hN hP hD hl.1 tw_321 k_ST_hasMark (c_ST_hasMark l D T H.size q n (x 0) (x 1) hn hC (((x 13 0) - k) + 1) (by omega)) ⟨by decide, by decide⟩ ⟨rfl, rfl⟩ [9, 10] (by decide) rfl rfl rfl rfl rfl (Nat.le_of_ble_eq_true rfl) ⟨Nat.zero_le _, Nat.zero_le _⟩ d_PR_compare_36) hP hD hS hA [9, 10] [0, 1, 2, 3, 4, 5, 6, 7, 8] [0, 1, 2, 3, 4, 5, 6, 7, 8, 9, 10] rfl (wr := [(q 9, .inr (2, [.ref (q 1), .ref (q 3), .ref (q 5), .ref (q 7), .ref (q 10), .int (iI (x 11 0)), .int (iI (x 12 0)), .int (iI (x 13 0)), .int (iI (x 14 0)), .int (iI (x 15 0)), .int (iI (x 16 0)), .int (iI (x 17 0))])), (q 3, .inr (1, [.int (iI (20)), .int (iI (80)), .ref (q 4), .int (iI (x 18 0))])), (q 4, .inl (T 0, 1680, .inl (fun jj : Nat => (iF (x 2)) (jj : Int)))), (q 5, .inr (1, [.int (iI (40)), .int (iI (132)), .ref (q 6), .int (iI (x 19 0))])), (q 6, .inl (T 0, 5412, .inl (fun jj : Nat => (iF (x 3)) (jj : Int)))), (q 7, .inr (1, [.int (iI (20)), .int (iI (80)), .ref (q 8), .int (iI (x 20 0))])), (q 8, .inl (T 0, 1680, .inl (fun jj : Nat => (iF (x 4)) (jj : Int)))), (q 10, .inr (0, [.ref (q 1), .ref (q 11)])), (q 11, .inl (T 0, n, .inl (fun jj : Nat => (iF d) (jj : Int))))]) rfl (by decide) (by decide) (fun _ => rfl) (by decide) (fun r u_ H locs hq36 hP hD hS => ?_)
    rcases hq36 with ⟨rfl, h36⟩ | ⟨rfl, h36⟩
    · refine cx_if_eq (tgt := 50) hx hb d_PR_compare_39 rfl (by omega) (fun h0 => absurd h0 (by decide)) (fun _ => ?_)
      refine lv_aload_n hx hb d_PR_compare_42 rfl (lv_at hl 1 rfl) ?_
      refine lv_iload_n hx hb d_PR_compare_43 rfl (lv_at hl 0 rfl) ?_
      refine cx_cI (ws2 := fun _ => prW T q n d (x 0) (x 1) (x 2) (x 3) (x 4) (x 11 0) (x 12 0) (x 13 0) (x 14 0) (x 15 0) (x 16 0) (x 17 0) (x 18 0) (x 19 0) (x 20 0)) (cx_rV (q0 := 0) (ci := 2) (rest := [.ref (q 9)]) (As := [.int (iI (k))]) hx hb hml hown hT hK hN hP hD hl.1 tw_451 k_PR_orderOf (c_PR_orderOf l D T H.size q n hn d x hX k (by omega)) ⟨by decide, by decide⟩ ⟨rfl, rfl⟩ [0, 1, 2, 3, 4, 5, 6, 7, 8, 9, 10] (by decide) rfl rfl rfl rfl rfl (Nat.le_of_ble_eq_true rfl) ⟨Nat.zero_le _, Nat.zero_le _⟩ d_PR_compare_44) hP hD hS hA [0, 1, 2, 3, 4, 5, 6, 7, 8, 9, 10] [] [0, 1, 2, 3, 4, 5, 6, 7, 8, 9, 10] rfl (wr := []) rfl (by decide) (by decide) (fun _ => rfl) (by decide) (fun r u_ H locs hq44 hP hD hS => ?_)
      subst hq44
      refine lv_goto (tgt := 51) hx hb d_PR_compare_47 rfl ?_
      refine va_put (D := D) (ci := 2) (v := .int (iI (ord (x 0) (x 12 0) (x 13 0) (k).toNat))) (ty := .int) (C := R_PR) (T := T_PR) (N := 12) hx hb hT lays_PR t_PR t_PR_ok n_PR hown hK hP hD hS 0 rfl rfl 8 (by decide) (hT _ tw_90) (fun _ h9 => h9) rfl (by decide +kernel) rfl rfl (Nat.le_of_ble_eq_true rfl) d_PR_compare_51 (fun H locs hP hD hS => ?_)
      have hP : va_P D vwCl (prW T q n d (x 0) (x 1) (x 2) (x 3) (x 4) (x 11 0) (x 12 0) (x 13 0) (ord (x 0) (x 12 0) (x 13 0) (k).toNat) (x 15 0) (x 16 0) (x 17 0) (x 18 0) (x 19 0) (x 20 0)) H := hP
      have hD : va_D A (prW T q n d (x 0) (x 1) (x 2) (x 3) (x 4) (x 11 0) (x 12 0) (x 13 0) (ord (x 0) (x 12 0) (x 13 0) (k).toNat) (x 15 0) (x 16 0) (x 17 0) (x 18 0) (x 19 0) (x 20 0)) := hD
      refine lv_aload_n hx hb d_PR_compare_54 rfl (lv_at hl 1 rfl) ?_
      refine lv_dup hx hb d_PR_compare_55 rfl ?_
      refine va_get (D := D) (ci := 2) (v := .int (iI (x 12 0))) (C := R_PR) (T := T_PR) (N := 12) hx hb hT lays_PR hown hK hP 0 rfl rfl 6 (by decide) (hT _ tw_85) (fun _ h9 => h9) rfl d_PR_compare_56 ?_
      refine lv_iload_n hx hb d_PR_compare_59 rfl (lv_at hl 0 rfl) ?_
      refine cx_isub hx hb d_PR_compare_60 ?_
      refine va_put (D := D) (ci := 2) (v := .int (iI ((x 12 0) - k))) (ty := .int) (C := R_PR) (T := T_PR) (N := 12) hx hb hT lays_PR t_PR t_PR_ok n_PR hown hK hP hD hS 0 rfl rfl 6 (by decide) (hT _ tw_85) (fun _ h9 => h9) rfl (by decide +kernel) rfl rfl (Nat.le_of_ble_eq_true rfl) d_PR_compare_61 (fun H locs hP hD hS => ?_)
      have hP : va_P D vwCl (prW T q n d (x 0) (x 1) (x 2) (x 3) (x 4) (x 11 0) ((x 12 0) - k) (x 13 0) (ord (x 0) (x 12 0) (x 13 0) (k).toNat) (x 15 0) (x 16 0) (x 17 0) (x 18 0) (x 19 0) (x 20 0)) H := hP
      have hD : va_D A (prW T q n d (x 0) (x 1) (x 2) (x 3) (x 4) (x 11 0) ((x 12 0) - k) (x 13 0) (ord (x 0) (x 12 0) (x 13 0) (k).toNat) (x 15 0) (x 16 0) (x 17 0) (x 18 0) (x 19 0) (x 20 0)) := hD
      refine lv_aload_n hx hb d_PR_compare_64 rfl (lv_at hl 1 rfl) ?_
      refine lv_dup hx hb d_PR_compare_65 rfl ?_
      refine va_get (D := D) (ci := 2) (v := .int (iI (x 13 0))) (C := R_PR) (T := T_PR) (N := 12) hx hb hT lays_PR hown hK hP 0 rfl rfl 7 (by decide) (hT _ tw_87) (fun _ h9 => h9) rfl d_PR_compare_66 ?_
      refine lv_iload_n hx hb d_PR_compare_69 rfl (lv_at hl 0 rfl) ?_
      refine cx_isub hx hb d_PR_compare_70 ?_
      refine va_put (D := D) (ci := 2) (v := .int (iI ((x 13 0) - k))) (ty := .int) (C := R_PR) (T := T_PR) (N := 12) hx hb hT lays_PR t_PR t_PR_ok n_PR hown hK hP hD hS 0 rfl rfl 7 (by decide) (hT _ tw_87) (fun _ h9 => h9) rfl (by decide +kernel) rfl rfl (Nat.le_of_ble_eq_true rfl) d_PR_compare_71 (fun H locs hP hD hS => ?_)
      have hP : va_P D vwCl (prW T q n d (x 0) (x 1) (x 2) (x 3) (x 4) (x 11 0) ((x 12 0) - k) ((x 13 0) - k) (ord (x 0) (x 12 0) (x 13 0) (k).toNat) (x 15 0) (x 16 0) (x 17 0) (x 18 0) (x 19 0) (x 20 0)) H := hP
      have hD : va_D A (prW T q n d (x 0) (x 1) (x 2) (x 3) (x 4) (x 11 0) ((x 12 0) - k) ((x 13 0) - k) (ord (x 0) (x 12 0) (x 13 0) (k).toNat) (x 15 0) (x 16 0) (x 17 0) (x 18 0) (x 19 0) (x 20 0)) := hD
      refine cx_iconst hx hb d_PR_compare_74 ?_
      exact hret (up (up (up x 12 (cst ((x 12 0) - k))) 13 (cst ((x 13 0) - k))) 14 (cst (ord (x 0) (x 12 0) (x 13 0) (k).toNat))) (pst_of (by unfold cmpS cmpK; rw [← hk, if_neg (by omega), if_pos h36]) (show okX (up (up (up x 12 (cst ((x 12 0) - k))) 13 (cst ((x 13 0) - k))) 14 (cst (ord (x 0) (x 12 0) (x 13 0) (k).toNat))) from ⟨hX.1, (show okR (x 11 0) ((x 12 0) - k) ((x 13 0) - k) (ord (x 0) (x 12 0) (x 13 0) (k).toNat) (x 15 0) (x 16 0) (x 17 0) (x 18 0) (x 19 0) (x 20 0) by have h8 := hX.2.1; unfold okR at h8 ⊢; omega), hX.2.2⟩)) hP hD hS d_PR_compare_75
    · refine cx_if_eq (tgt := 50) hx hb d_PR_compare_39 rfl (by omega) (fun _ => ?_) (fun h0 => absurd h0 (by decide))
      refine cx_iconst hx hb d_PR_compare_50 ?_
      refine va_put (D := D) (ci := 2) (v := .int (iI (1))) (ty := .int) (C := R_PR) (T := T_PR) (N := 12) hx hb hT lays_PR t_PR t_PR_ok n_PR hown hK hP hD hS 0 rfl rfl 8 (by decide) (hT _ tw_90) (fun _ h9 => h9) rfl (by decide +kernel) rfl rfl (Nat.le_of_ble_eq_true rfl) d_PR_compare_51 (fun H locs hP hD hS => ?_)
      have hP : va_P D vwCl (prW T q n d (x 0) (x 1) (x 2) (x 3) (x 4) (x 11 0) (x 12 0) (x 13 0) 1 (x 15 0) (x 16 0) (x 17 0) (x 18 0) (x 19 0) (x 20 0)) H := hP
      have hD : va_D A (prW T q n d (x 0) (x 1) (x 2) (x 3) (x 4) (x 11 0) (x 12 0) (x 13 0) 1 (x 15 0) (x 16 0) (x 17 0) (x 18 0) (x 19 0) (x 20 0)) := hD
      refine lv_aload_n hx hb d_PR_compare_54 rfl (lv_at hl 1 rfl) ?_
      refine lv_dup hx hb d_PR_compare_55 rfl ?_
      refine va_get (D := D) (ci := 2) (v := .int (iI (x 12 0))) (C := R_PR) (T := T_PR) (N := 12) hx hb hT lays_PR hown hK hP 0 rfl rfl 6 (by decide) (hT _ tw_85) (fun _ h9 => h9) rfl d_PR_compare_56 ?_
      refine lv_iload_n hx hb d_PR_compare_59 rfl (lv_at hl 0 rfl) ?_
      refine cx_isub hx hb d_PR_compare_60 ?_
      refine va_put (D := D) (ci := 2) (v := .int (iI ((x 12 0) - k))) (ty := .int) (C := R_PR) (T := T_PR) (N := 12) hx hb hT lays_PR t_PR t_PR_ok n_PR hown hK hP hD hS 0 rfl rfl 6 (by decide) (hT _ tw_85) (fun _ h9 => h9) rfl (by decide +kernel) rfl rfl (Nat.le_of_ble_eq_true rfl) d_PR_compare_61 (fun H locs hP hD hS => ?_)
      have hP : va_P D vwCl (prW T q n d (x 0) (x 1) (x 2) (x 3) (x 4) (x 11 0) ((x 12 0) - k) (x 13 0) 1 (x 15 0) (x 16 0) (x 17 0) (x 18 0) (x 19 0) (x 20 0)) H := hP
      have hD : va_D A (prW T q n d (x 0) (x 1) (x 2) (x 3) (x 4) (x 11 0) ((x 12 0) - k) (x 13 0) 1 (x 15 0) (x 16 0) (x 17 0) (x 18 0) (x 19 0) (x 20 0)) := hD
      refine lv_aload_n hx hb d_PR_compare_64 rfl (lv_at hl 1 rfl) ?_
      refine lv_dup hx hb d_PR_compare_65 rfl ?_
      refine va_get (D := D) (ci := 2) (v := .int (iI (x 13 0))) (C := R_PR) (T := T_PR) (N := 12) hx hb hT lays_PR hown hK hP 0 rfl rfl 7 (by decide) (hT _ tw_87) (fun _ h9 => h9) rfl d_PR_compare_66 ?_
      refine lv_iload_n hx hb d_PR_compare_69 rfl (lv_at hl 0 rfl) ?_
      refine cx_isub hx hb d_PR_compare_70 ?_
      refine va_put (D := D) (ci := 2) (v := .int (iI ((x 13 0) - k))) (ty := .int) (C := R_PR) (T := T_PR) (N := 12) hx hb hT lays_PR t_PR t_PR_ok n_PR hown hK hP hD hS 0 rfl rfl 7 (by decide) (hT _ tw_87) (fun _ h9 => h9) rfl (by decide +kernel) rfl rfl (Nat.le_of_ble_eq_true rfl) d_PR_compare_71 (fun H locs hP hD hS => ?_)
      have hP : va_P D vwCl (prW T q n d (x 0) (x 1) (x 2) (x 3) (x 4) (x 11 0) ((x 12 0) - k) ((x 13 0) - k) 1 (x 15 0) (x 16 0) (x 17 0) (x 18 0) (x 19 0) (x 20 0)) H := hP
      have hD : va_D A (prW T q n d (x 0) (x 1) (x 2) (x 3) (x 4) (x 11 0) ((x 12 0) - k) ((x 13 0) - k) 1 (x 15 0) (x 16 0) (x 17 0) (x 18 0) (x 19 0) (x 20 0)) := hD
      refine cx_iconst hx hb d_PR_compare_74 ?_
      exact hret (up (up (up x 12 (cst ((x 12 0) - k))) 13 (cst ((x 13 0) - k))) 14 (cst 1)) (pst_of (by unfold cmpS cmpK; rw [← hk, if_neg (by omega), if_neg (by omega)]) (show okX (up (up (up x 12 (cst ((x 12 0) - k))) 13 (cst ((x 13 0) - k))) 14 (cst 1)) from ⟨hX.1, (show okR (x 11 0) ((x 12 0) - k) ((x 13 0) - k) 1 (x 15 0) (x 16 0) (x 17 0) (x 18 0) (x 19 0) (x 20 0) by have h8 := hX.2.1; unfold okR at h8 ⊢; omega), hX.2.2⟩)) hP hD hS d_PR_compare_75
  · refine cx_iconst hx hb d_PR_compare_21 ?_
    exact hret x (pst_of (by unfold cmpS cmpK; rw [if_pos (by rw [← hk]; unfold flr at h18; omega)]) hX) hP hD hS d_PR_compare_22

set_option maxHeartbeats 4000000 in
set_option maxRecDepth 100000 in
theorem c_PR_suppressZeros (l : Launch) (D : va_G) (T : Nat → ClassId) (sz : Nat) (q : Nat → Nat) (n : Nat) (hn : 400 ≤ n ∧ n ≤ 2000) (d : Int → Int) (x : SX) (hX : okX x) : MI l y_PR_suppressZeros (wY y_PR_suppressZeros b_PR_suppressZeros 3 (some .int)) (rmK 3) D vwCl (tyL T) nwL sz [.ref (q 9)] (prW T q n d (x 0) (x 1) (x 2) (x 3) (x 4) (x 11 0) (x 12 0) (x 13 0) (x 14 0) (x 15 0) (x 16 0) (x 17 0) (x 18 0) (x 19 0) (x 20 0)) (fun r u => pst (supS n x) r u) (fun u => prX T q n d u) := by
  refine cx_inI (by decide) rfl (Nat.le_of_ble_eq_true rfl) ?_
  intro p e s m below meth cd ls A Q hx hb hml hT hown hret hP hK hD hN hS hA hl
  have hown : s.vm.findClass R_PR = some m.cls := hown
  have hl : lv_has ls 3 [(0, .ref (q 9))] := hl
  have hC := hX.1
  have hR0 := hX.2.1
  have hF := hX.2.2
  unfold okR at hR0
  have hcA := hC.1 (x 12 0)
  refine lv_aload_n hx hb d_PR_suppressZeros_0 rfl (lv_at hl 0 rfl) ?_
  refine va_get (D := D) (ci := 2) (v := .ref (q 1)) (C := R_PR) (T := T_PR) (N := 12) hx hb hT lays_PR hown hK hP 0 rfl rfl 0 (by decide) (hT _ tw_78) (fun _ h9 => h9) rfl d_PR_suppressZeros_1 ?_
  refine lv_aload_n hx hb d_PR_suppressZeros_4 rfl (lv_at hl 0 rfl) ?_
  refine va_get (D := D) (ci := 2) (v := .int (iI (x 12 0))) (C := R_PR) (T := T_PR) (N := 12) hx hb hT lays_PR hown hK hP 0 rfl rfl 6 (by decide) (hT _ tw_85) (fun _ h9 => h9) rfl d_PR_suppressZeros_5 ?_
  refine cx_cI (ws2 := fun _ => prW T q n d (x 0) (x 1) (x 2) (x 3) (x 4) (x 11 0) (x 12 0) (x 13 0) (x 14 0) (x 15 0) (x 16 0) (x 17 0) (x 18 0) (x 19 0) (x 20 0)) (cx_rV (q0 := 9) (ci := 3) (rest := []) (As := [.int (iI (x 12 0))]) hx hb hml hown hT hK hN hP hD hl.1 tw_360 k_ST_fieldLength1 (c_ST_fieldLength1 l D T s.heap.size q n (x 0) (x 1) hn hC (x 12 0) (by omega)) ⟨by decide, by decide⟩ ⟨rfl, rfl⟩ [9, 10] (by decide) rfl rfl rfl rfl rfl (Nat.le_of_ble_eq_true rfl) ⟨Nat.zero_le _, Nat.zero_le _⟩ d_PR_suppressZeros_8) hP hD hS hA [9, 10] [0, 1, 2, 3, 4, 5, 6, 7, 8] [0, 1, 2, 3, 4, 5, 6, 7, 8, 9, 10] rfl (wr := [(q 9, .inr (2, [.ref (q 1), .ref (q 3), .ref (q 5), .ref (q 7), .ref (q 10), .int (iI (x 11 0)), .int (iI (x 12 0)), .int (iI (x 13 0)), .int (iI (x 14 0)), .int (iI (x 15 0)), .int (iI (x 16 0)), .int (iI (x 17 0))])), (q 3, .inr (1, [.int (iI (20)), .int (iI (80)), .ref (q 4), .int (iI (x 18 0))])), (q 4, .inl (T 0, 1680, .inl (fun jj : Nat => (iF (x 2)) (jj : Int)))), (q 5, .inr (1, [.int (iI (40)), .int (iI (132)), .ref (q 6), .int (iI (x 19 0))])), (q 6, .inl (T 0, 5412, .inl (fun jj : Nat => (iF (x 3)) (jj : Int)))), (q 7, .inr (1, [.int (iI (20)), .int (iI (80)), .ref (q 8), .int (iI (x 20 0))])), (q 8, .inl (T 0, 1680, .inl (fun jj : Nat => (iF (x 4)) (jj : Int)))), (q 10, .inr (0, [.ref (q 1), .ref (q 11)])), (q 11, .inl (T 0, n, .inl (fun jj : Nat => (iF d) (jj : Int))))]) rfl (by decide) (by decide) (fun _ => rfl) (by decide) (fun r u_ H locs hq8 hP hD hS => ?_)
  subst hq8
  refine lv_istore_n (lv' := [(1, .int (iI (flr (fld n (x 1) (x 12 0) (n + 1) 2001 1)))), (0, .ref (q 9))]) hx hb d_PR_suppressZeros_11 rfl hl (by decide) rfl (fun ls hl => ?_)
  obtain ⟨k, hk⟩ : ∃ z, z = fld n (x 1) (x 12 0) (n + 1) 2001 1 := ⟨_, rfl⟩
  rw [← hk] at hl
  have hk1 := fld_in hk
  have hk2 := flr_in k (by omega)
  refine lv_iload_n hx hb d_PR_suppressZeros_12 rfl (lv_at hl 0 rfl) ?_
  refine cx_iconst hx hb d_PR_suppressZeros_13 ?_
  refine cx_icmp_eq (tgt := 32) hx hb d_PR_suppressZeros_14 rfl (by omega) (by omega) (fun h14 => ?_) (fun h14 => ?_)
  · refine cx_iconst hx hb d_PR_suppressZeros_32 ?_
    exact hret x (pst_of (by unfold supS supK; rw [if_pos (by rw [← hk]; unfold flr at *; omega)]) hX) hP hD hS d_PR_suppressZeros_33
  · have hk3 : flr k = k := flr_pos (by unfold flr at h14; omega)
    rw [hk3] at hl
    refine lv_aload_n hx hb d_PR_suppressZeros_17 rfl (lv_at hl 1 rfl) ?_
    refine va_get (D := D) (ci := 2) (v := .ref (q 1)) (C := R_PR) (T := T_PR) (N := 12) hx hb hT lays_PR hown hK hP 0 rfl rfl 0 (by decide) (hT _ tw_78) (fun _ h9 => h9) rfl d_PR_suppressZeros_18 ?_
    refine lv_aload_n hx hb d_PR_suppressZeros_21 rfl (lv_at hl 1 rfl) ?_
    refine va_get (D := D) (ci := 2) (v := .int (iI (x 13 0))) (C := R_PR) (T := T_PR) (N := 12) hx hb hT lays_PR hown hK hP 0 rfl rfl 7 (by decide) (hT _ tw_87) (fun _ h9 => h9) rfl d_PR_suppressZeros_22 ?_
    refine lv_iload_n hx hb d_PR_suppressZeros_25 rfl (lv_at hl 0 rfl) ?_
    refine cx_cI (ws2 := fun _ => prW T q n d (x 0) (x 1) (x 2) (x 3) (x 4) (x 11 0) (x 12 0) (x 13 0) (x 14 0) (x 15 0) (x 16 0) (x 17 0) (x 18 0) (x 19 0) (x 20 0)) (cx_rV (q0 := 9) (ci := 3) (rest := []) (As := [.int (iI (x 13 0)), .int (iI (k))]) hx hb hml hown hT hK hN hP hD hl.1 tw_432 k_ST_hasSpan (c_ST_hasSpan l D T H.size q n (x 0) (x 1) hn (x 13 0) k (by omega) (by omega)) ⟨by decide, by decide⟩ ⟨rfl, rfl⟩ [9, 10] (by decide) rfl rfl rfl rfl rfl (Nat.le_of_ble_eq_true rfl) ⟨Nat.zero_le _, Nat.zero_le _⟩ d_PR_suppressZeros_26) hP hD hS hA [9, 10] [0, 1, 2, 3, 4, 5, 6, 7, 8] [0, 1, 2, 3, 4, 5, 6, 7, 8, 9, 10] rfl (wr := [(q 9, .inr (2, [.ref (q 1), .ref (q 3), .ref (q 5), .ref (q 7), .ref (q 10), .int (iI (x 11 0)), .int (iI (x 12 0)), .int (iI (x 13 0)), .int (iI (x 14 0)), .int (iI (x 15 0)), .int (iI (x 16 0)), .int (iI (x 17 0))])), (q 3, .inr (1, [.int (iI (20)), .int (iI (80)), .ref (q 4), .int (iI (x 18 0))])), (q 4, .inl (T 0, 1680, .inl (fun jj : Nat => (iF (x 2)) (jj : Int)))), (q 5, .inr (1, [.int (iI (40)), .int (iI (132)), .ref (q 6), .int (iI (x 19 0))])), (q 6, .inl (T 0, 5412, .inl (fun jj : Nat => (iF (x 3)) (jj : Int)))), (q 7, .inr (1, [.int (iI (20)), .int (iI (80)), .ref (q 8), .int (iI (x 20 0))])), (q 8, .inl (T 0, 1680, .inl (fun jj : Nat => (iF (x 4)) (jj : Int)))), (q 10, .inr (0, [.ref (q 1), .ref (q 11)])), (q 11, .inl (T 0, n, .inl (fun jj : Nat => (iF d) (jj : Int))))]) rfl (by decide) (by decide) (fun _ => rfl) (by decide) (fun r u_ H locs hq26 hP hD hS => ?_)
    rcases hq26 with ⟨rfl, h26⟩ | ⟨rfl, h26⟩
    · refine cx_if_ne (tgt := 34) hx hb d_PR_suppressZeros_29 rfl (by omega) (fun _ => ?_) (fun h0 => absurd h0 (by decide))
      refine lv_aload_n hx hb d_PR_suppressZeros_34 rfl (lv_at hl 1 rfl) ?_
      refine va_get (D := D) (ci := 2) (v := .ref (q 1)) (C := R_PR) (T := T_PR) (N := 12) hx hb hT lays_PR hown hK hP 0 rfl rfl 0 (by decide) (hT _ tw_78) (fun _ h9 => h9) rfl d_PR_suppressZeros_35 ?_
      refine lv_aload_n hx hb d_PR_suppressZeros_38 rfl (lv_at hl 1 rfl) ?_
      refine va_get (D := D) (ci := 2) (v := .int (iI (x 13 0))) (C := R_PR) (T := T_PR) (N := 12) hx hb hT lays_PR hown hK hP 0 rfl rfl 7 (by decide) (hT _ tw_87) (fun _ h9 => h9) rfl d_PR_suppressZeros_39 ?_
      refine lv_aload_n hx hb d_PR_suppressZeros_42 rfl (lv_at hl 1 rfl) ?_
      refine va_get (D := D) (ci := 2) (v := .ref (q 1)) (C := R_PR) (T := T_PR) (N := 12) hx hb hT lays_PR hown hK hP 0 rfl rfl 0 (by decide) (hT _ tw_78) (fun _ h9 => h9) rfl d_PR_suppressZeros_43 ?_
      refine lv_aload_n hx hb d_PR_suppressZeros_46 rfl (lv_at hl 1 rfl) ?_
      refine va_get (D := D) (ci := 2) (v := .int (iI (x 12 0))) (C := R_PR) (T := T_PR) (N := 12) hx hb hT lays_PR hown hK hP 0 rfl rfl 6 (by decide) (hT _ tw_85) (fun _ h9 => h9) rfl d_PR_suppressZeros_47 ?_
      refine cx_cI (ws2 := fun _ => prW T q n d (x 0) (x 1) (x 2) (x 3) (x 4) (x 11 0) (x 12 0) (x 13 0) (x 14 0) (x 15 0) (x 16 0) (x 17 0) (x 18 0) (x 19 0) (x 20 0)) (cx_rV (q0 := 9) (ci := 3) (rest := [.int (iI (x 13 0)), .ref (q 1)]) (As := [.int (iI (x 12 0))]) hx hb hml hown hT hK hN hP hD hl.1 tw_322 k_ST_character (c_ST_character l D T H.size q n (x 0) (x 1) hn hC (x 12 0) (by omega)) ⟨by decide, by decide⟩ ⟨rfl, rfl⟩ [9, 10] (by decide) rfl rfl rfl rfl rfl (Nat.le_of_ble_eq_true rfl) ⟨Nat.zero_le _, Nat.zero_le _⟩ d_PR_suppressZeros_50) hP hD hS hA [9, 10] [0, 1, 2, 3, 4, 5, 6, 7, 8] [0, 1, 2, 3, 4, 5, 6, 7, 8, 9, 10] rfl (wr := [(q 9, .inr (2, [.ref (q 1), .ref (q 3), .ref (q 5), .ref (q 7), .ref (q 10), .int (iI (x 11 0)), .int (iI (x 12 0)), .int (iI (x 13 0)), .int (iI (x 14 0)), .int (iI (x 15 0)), .int (iI (x 16 0)), .int (iI (x 17 0))])), (q 3, .inr (1, [.int (iI (20)), .int (iI (80)), .ref (q 4), .int (iI (x 18 0))])), (q 4, .inl (T 0, 1680, .inl (fun jj : Nat => (iF (x 2)) (jj : Int)))), (q 5, .inr (1, [.int (iI (40)), .int (iI (132)), .ref (q 6), .int (iI (x 19 0))])), (q 6, .inl (T 0, 5412, .inl (fun jj : Nat => (iF (x 3)) (jj : Int)))), (q 7, .inr (1, [.int (iI (20)), .int (iI (80)), .ref (q 8), .int (iI (x 20 0))])), (q 8, .inl (T 0, 1680, .inl (fun jj : Nat => (iF (x 4)) (jj : Int)))), (q 10, .inr (0, [.ref (q 1), .ref (q 11)])), (q 11, .inl (T 0, n, .inl (fun jj : Nat => (iF d) (jj : Int))))]) rfl (by decide) (by decide) (fun _ => rfl) (by decide) (fun r u_ H locs hq50 hP hD hS => ?_)
      subst hq50
      refine cx_bipush hx hb d_PR_suppressZeros_53 rfl ?_
      refine lv_iand hx hb d_PR_suppressZeros_55 ?_
      refine cx_eq (bt_c15 hcA) ?_
      refine cx_cV (ws2 := fun _ => prW T q n d (fu (x 0) (x 13 0) (x 0 (x 12 0) % 16)) (x 1) (x 2) (x 3) (x 4) (x 11 0) (x 12 0) (x 13 0) (x 14 0) (x 15 0) (x 16 0) (x 17 0) (x 18 0) (x 19 0) (x 20 0)) (cx_rV (q0 := 9) (ci := 3) (rest := []) (As := [.int (iI (x 13 0)), .int (iI (x 0 (x 12 0) % 16))]) hx hb hml hown hT hK hN hP hD hl.1 tw_427 k_ST_write (c_ST_write l D T H.size q n (x 0) (x 1) hn hC (x 13 0) (by omega) (x 0 (x 12 0) % 16) (by omega)) ⟨by decide, by decide⟩ ⟨rfl, rfl⟩ [9, 10] (by decide) rfl rfl rfl rfl rfl (Nat.le_of_ble_eq_true rfl) ⟨Nat.zero_le _, Nat.zero_le _⟩ d_PR_suppressZeros_56) hP hD hS hA [9, 10] [0, 1, 2, 3, 4, 5, 6, 7, 8] [0, 1, 2, 3, 4, 5, 6, 7, 8, 9, 10] rfl (wr := [(q 9, .inr (2, [.ref (q 1), .ref (q 3), .ref (q 5), .ref (q 7), .ref (q 10), .int (iI (x 11 0)), .int (iI (x 12 0)), .int (iI (x 13 0)), .int (iI (x 14 0)), .int (iI (x 15 0)), .int (iI (x 16 0)), .int (iI (x 17 0))])), (q 3, .inr (1, [.int (iI (20)), .int (iI (80)), .ref (q 4), .int (iI (x 18 0))])), (q 4, .inl (T 0, 1680, .inl (fun jj : Nat => (iF (x 2)) (jj : Int)))), (q 5, .inr (1, [.int (iI (40)), .int (iI (132)), .ref (q 6), .int (iI (x 19 0))])), (q 6, .inl (T 0, 5412, .inl (fun jj : Nat => (iF (x 3)) (jj : Int)))), (q 7, .inr (1, [.int (iI (20)), .int (iI (80)), .ref (q 8), .int (iI (x 20 0))])), (q 8, .inl (T 0, 1680, .inl (fun jj : Nat => (iF (x 4)) (jj : Int)))), (q 10, .inr (0, [.ref (q 1), .ref (q 11)])), (q 11, .inl (T 0, n, .inl (fun jj : Nat => (iF d) (jj : Int))))]) rfl (by decide) (by decide) (fun _ => rfl) (by decide) (fun u_ H locs hq56 hP hD hS => ?_)
      have hC : okC (fu (x 0) (x 13 0) (x 0 (x 12 0) % 16)) (x 1) := okC_fu hC (by omega)
      refine cx_iconst hx hb d_PR_suppressZeros_59 ?_
      refine lv_istore_n (lv' := [(2, .int (iI (1))), (1, .int (iI (k))), (0, .ref (q 9))]) hx hb d_PR_suppressZeros_60 rfl hl (by decide) rfl (fun ls hl => ?_)
      have L1 : ∀ (k_ : Nat) (j : Int) (H : Heap) (locs : List Loc) (ls : Array Slot), (1 ≤ j ∧ j ≤ k ∧ k - j < k_) → (okC (zmN (x 0) (x 12 0) (x 13 0) (j - 1).toNat) (x 1)) → va_P D vwCl (prW T q n d (zmN (x 0) (x 12 0) (x 13 0) (j - 1).toNat) (x 1) (x 2) (x 3) (x 4) (x 11 0) (x 12 0) (x 13 0) (x 14 0) (x 15 0) (x 16 0) (x 17 0) (x 18 0) (x 19 0) (x 20 0)) H → va_D A (prW T q n d (zmN (x 0) (x 12 0) (x 13 0) (j - 1).toNat) (x 1) (x 2) (x 3) (x 4) (x 11 0) (x 12 0) (x 13 0) (x 14 0) (x 15 0) (x 16 0) (x 17 0) (x 18 0) (x 19 0) (x 20 0)) → va_S A s.heap H locs → lv_has ls 3 [(2, .int (iI (j))), (1, .int (iI (k))), (0, .ref (q 9))] → W p l e (rmK 3) s m ([.ref (q 9)] : List Value).toArray below meth cd H locs 0 0 Q (F0 m 61 ls []) := by
        intro k_
        induction k_ with
        | zero => intro j H locs ls hj hC _ _ _ _; exact absurd hj (by omega)
        | succ k_ ih1 =>
          intro j H locs ls hj hC hP hD hS hl
          refine lv_iload_n hx hb d_PR_suppressZeros_61 rfl (lv_at hl 0 rfl) ?_
          refine lv_iload_n hx hb d_PR_suppressZeros_62 rfl (lv_at hl 1 rfl) ?_
          refine cx_icmp_ge (tgt := 98) hx hb d_PR_suppressZeros_63 rfl (by omega) (by omega) (fun h63 => ?_) (fun h63 => ?_)
          · obtain rfl : j = k := by omega
            refine lv_iload_n hx hb d_PR_suppressZeros_98 rfl (lv_at hl 1 rfl) ?_
            refine cx_iconst hx hb d_PR_suppressZeros_99 ?_
            refine cx_isub hx hb d_PR_suppressZeros_100 ?_
            refine lv_istore_n (lv' := [(2, .int (iI (j - 1))), (1, .int (iI (j))), (0, .ref (q 9))]) hx hb d_PR_suppressZeros_101 rfl hl (by decide) rfl (fun ls hl => ?_)
            have L2 : ∀ (k_ : Nat) (i : Int) (c : Int → Int) (H : Heap) (locs : List Loc) (ls : Array Slot), (-1 ≤ i ∧ i < j ∧ i + 1 < k_) → (okC c (x 1)) → (spZ (x 13 0) j.toNat (zmN (x 0) (x 12 0) (x 13 0) (j - 1).toNat) = spZ (x 13 0) (i + 1).toNat c) → va_P D vwCl (prW T q n d c (x 1) (x 2) (x 3) (x 4) (x 11 0) (x 12 0) (x 13 0) (x 14 0) (x 15 0) (x 16 0) (x 17 0) (x 18 0) (x 19 0) (x 20 0)) H → va_D A (prW T q n d c (x 1) (x 2) (x 3) (x 4) (x 11 0) (x 12 0) (x 13 0) (x 14 0) (x 15 0) (x 16 0) (x 17 0) (x 18 0) (x 19 0) (x 20 0)) → va_S A s.heap H locs → lv_has ls 3 [(2, .int (iI (i))), (1, .int (iI (j))), (0, .ref (q 9))] → W p l e (rmK 3) s m ([.ref (q 9)] : List Value).toArray below meth cd H locs 0 0 Q (F0 m 102 ls []) := by
              intro k_
              induction k_ with
              | zero => intro i c H locs ls hj2 hC hs _ _ _ _; exact absurd hj2 (by omega)
              | succ k_ ih2 =>
                intro i c H locs ls hj2 hC hs hP hD hS hl
                refine lv_iload_n hx hb d_PR_suppressZeros_102 rfl (lv_at hl 0 rfl) ?_
                refine cx_if_lt (tgt := 145) hx hb d_PR_suppressZeros_103 rfl (by omega) (fun h103 => ?_) (fun h103 => ?_)
                · refine lv_aload_n hx hb d_PR_suppressZeros_145 rfl (lv_at hl 2 rfl) ?_
                  refine lv_dup hx hb d_PR_suppressZeros_146 rfl ?_
                  refine va_get (D := D) (ci := 2) (v := .int (iI (x 12 0))) (C := R_PR) (T := T_PR) (N := 12) hx hb hT lays_PR hown hK hP 0 rfl rfl 6 (by decide) (hT _ tw_85) (fun _ h9 => h9) rfl d_PR_suppressZeros_147 ?_
                  refine lv_iload_n hx hb d_PR_suppressZeros_150 rfl (lv_at hl 1 rfl) ?_
                  refine cx_isub hx hb d_PR_suppressZeros_151 ?_
                  refine va_put (D := D) (ci := 2) (v := .int (iI ((x 12 0) - j))) (ty := .int) (C := R_PR) (T := T_PR) (N := 12) hx hb hT lays_PR t_PR t_PR_ok n_PR hown hK hP hD hS 0 rfl rfl 6 (by decide) (hT _ tw_85) (fun _ h9 => h9) rfl (by decide +kernel) rfl rfl (Nat.le_of_ble_eq_true rfl) d_PR_suppressZeros_152 (fun H locs hP hD hS => ?_)
                  have hP : va_P D vwCl (prW T q n d c (x 1) (x 2) (x 3) (x 4) (x 11 0) ((x 12 0) - j) (x 13 0) (x 14 0) (x 15 0) (x 16 0) (x 17 0) (x 18 0) (x 19 0) (x 20 0)) H := hP
                  have hD : va_D A (prW T q n d c (x 1) (x 2) (x 3) (x 4) (x 11 0) ((x 12 0) - j) (x 13 0) (x 14 0) (x 15 0) (x 16 0) (x 17 0) (x 18 0) (x 19 0) (x 20 0)) := hD
                  refine lv_aload_n hx hb d_PR_suppressZeros_155 rfl (lv_at hl 2 rfl) ?_
                  refine lv_dup hx hb d_PR_suppressZeros_156 rfl ?_
                  refine va_get (D := D) (ci := 2) (v := .int (iI (x 13 0))) (C := R_PR) (T := T_PR) (N := 12) hx hb hT lays_PR hown hK hP 0 rfl rfl 7 (by decide) (hT _ tw_87) (fun _ h9 => h9) rfl d_PR_suppressZeros_157 ?_
                  refine cx_iconst hx hb d_PR_suppressZeros_160 ?_
                  refine cx_iadd hx hb d_PR_suppressZeros_161 ?_
                  refine va_put (D := D) (ci := 2) (v := .int (iI ((x 13 0) + 1))) (ty := .int) (C := R_PR) (T := T_PR) (N := 12) hx hb hT lays_PR t_PR t_PR_ok n_PR hown hK hP hD hS 0 rfl rfl 7 (by decide) (hT _ tw_87) (fun _ h9 => h9) rfl (by decide +kernel) rfl rfl (Nat.le_of_ble_eq_true rfl) d_PR_suppressZeros_162 (fun H locs hP hD hS => ?_)
                  have hP : va_P D vwCl (prW T q n d c (x 1) (x 2) (x 3) (x 4) (x 11 0) ((x 12 0) - j) ((x 13 0) + 1) (x 14 0) (x 15 0) (x 16 0) (x 17 0) (x 18 0) (x 19 0) (x 20 0)) H := hP
                  have hD : va_D A (prW T q n d c (x 1) (x 2) (x 3) (x 4) (x 11 0) ((x 12 0) - j) ((x 13 0) + 1) (x 14 0) (x 15 0) (x 16 0) (x 17 0) (x 18 0) (x 19 0) (x 20 0)) := hD
                  refine cx_iconst hx hb d_PR_suppressZeros_165 ?_
                  exact hret (up (up (up x 0 c) 12 (cst ((x 12 0) - j))) 13 (cst ((x 13 0) + 1))) (pst_of (by unfold supS supK; rw [← hk, if_neg (by omega), hs, spZ_end (by omega)]) (show okX (up (up (up x 0 c) 12 (cst ((x 12 0) - j))) 13 (cst ((x 13 0) + 1))) from ⟨hC, (show okR (x 11 0) ((x 12 0) - j) ((x 13 0) + 1) (x 14 0) (x 15 0) (x 16 0) (x 17 0) (x 18 0) (x 19 0) (x 20 0) by have h8 := hX.2.1; unfold okR at h8 ⊢; omega), hX.2.2⟩)) hP hD hS d_PR_suppressZeros_166
                · have hc9 := hC.1 (x 13 0 - i)
                  refine lv_aload_n hx hb d_PR_suppressZeros_106 rfl (lv_at hl 2 rfl) ?_
                  refine va_get (D := D) (ci := 2) (v := .ref (q 1)) (C := R_PR) (T := T_PR) (N := 12) hx hb hT lays_PR hown hK hP 0 rfl rfl 0 (by decide) (hT _ tw_78) (fun _ h9 => h9) rfl d_PR_suppressZeros_107 ?_
                  refine lv_aload_n hx hb d_PR_suppressZeros_110 rfl (lv_at hl 2 rfl) ?_
                  refine va_get (D := D) (ci := 2) (v := .int (iI (x 13 0))) (C := R_PR) (T := T_PR) (N := 12) hx hb hT lays_PR hown hK hP 0 rfl rfl 7 (by decide) (hT _ tw_87) (fun _ h9 => h9) rfl d_PR_suppressZeros_111 ?_
                  refine lv_iload_n hx hb d_PR_suppressZeros_114 rfl (lv_at hl 0 rfl) ?_
                  refine cx_isub hx hb d_PR_suppressZeros_115 ?_
                  refine cx_cI (ws2 := fun _ => prW T q n d c (x 1) (x 2) (x 3) (x 4) (x 11 0) (x 12 0) (x 13 0) (x 14 0) (x 15 0) (x 16 0) (x 17 0) (x 18 0) (x 19 0) (x 20 0)) (cx_rV (q0 := 9) (ci := 3) (rest := []) (As := [.int (iI ((x 13 0) - i))]) hx hb hml hown hT hK hN hP hD hl.1 tw_322 k_ST_character (c_ST_character l D T H.size q n c (x 1) hn hC ((x 13 0) - i) (by omega)) ⟨by decide, by decide⟩ ⟨rfl, rfl⟩ [9, 10] (by decide) rfl rfl rfl rfl rfl (Nat.le_of_ble_eq_true rfl) ⟨Nat.zero_le _, Nat.zero_le _⟩ d_PR_suppressZeros_116) hP hD hS hA [9, 10] [0, 1, 2, 3, 4, 5, 6, 7, 8] [0, 1, 2, 3, 4, 5, 6, 7, 8, 9, 10] rfl (wr := [(q 9, .inr (2, [.ref (q 1), .ref (q 3), .ref (q 5), .ref (q 7), .ref (q 10), .int (iI (x 11 0)), .int (iI (x 12 0)), .int (iI (x 13 0)), .int (iI (x 14 0)), .int (iI (x 15 0)), .int (iI (x 16 0)), .int (iI (x 17 0))])), (q 3, .inr (1, [.int (iI (20)), .int (iI (80)), .ref (q 4), .int (iI (x 18 0))])), (q 4, .inl (T 0, 1680, .inl (fun jj : Nat => (iF (x 2)) (jj : Int)))), (q 5, .inr (1, [.int (iI (40)), .int (iI (132)), .ref (q 6), .int (iI (x 19 0))])), (q 6, .inl (T 0, 5412, .inl (fun jj : Nat => (iF (x 3)) (jj : Int)))), (q 7, .inr (1, [.int (iI (20)), .int (iI (80)), .ref (q 8), .int (iI (x 20 0))])), (q 8, .inl (T 0, 1680, .inl (fun jj : Nat => (iF (x 4)) (jj : Int)))), (q 10, .inr (0, [.ref (q 1), .ref (q 11)])), (q 11, .inl (T 0, n, .inl (fun jj : Nat => (iF d) (jj : Int))))]) rfl (by decide) (by decide) (fun _ => rfl) (by decide) (fun r u_ H locs hq116 hP hD hS => ?_)
                  subst hq116
                  refine cx_cI (ws2 := fun _ => prW T q n d c (x 1) (x 2) (x 3) (x 4) (x 11 0) (x 12 0) (x 13 0) (x 14 0) (x 15 0) (x 16 0) (x 17 0) (x 18 0) (x 19 0) (x 20 0)) (cx_rS (rest := []) (As := [.int (iI (c ((x 13 0) - i)))]) hx hb hml hown hT hK hN hP hD hl.1 tw_483 k_PR_isSuppressed (c_PR_isSuppressed l D T H.size (c ((x 13 0) - i)) (by omega)) ⟨by decide, by decide⟩ ⟨rfl, rfl⟩ [] (by decide) rfl rfl rfl (Nat.le_of_ble_eq_true rfl) ⟨Nat.zero_le _, Nat.zero_le _⟩ d_PR_suppressZeros_119) hP hD hS hA [] [0, 1, 2, 3, 4, 5, 6, 7, 8, 9, 10] [0, 1, 2, 3, 4, 5, 6, 7, 8, 9, 10] rfl (wr := [(q 9, .inr (2, [.ref (q 1), .ref (q 3), .ref (q 5), .ref (q 7), .ref (q 10), .int (iI (x 11 0)), .int (iI (x 12 0)), .int (iI (x 13 0)), .int (iI (x 14 0)), .int (iI (x 15 0)), .int (iI (x 16 0)), .int (iI (x 17 0))])), (q 3, .inr (1, [.int (iI (20)), .int (iI (80)), .ref (q 4), .int (iI (x 18 0))])), (q 4, .inl (T 0, 1680, .inl (fun jj : Nat => (iF (x 2)) (jj : Int)))), (q 5, .inr (1, [.int (iI (40)), .int (iI (132)), .ref (q 6), .int (iI (x 19 0))])), (q 6, .inl (T 0, 5412, .inl (fun jj : Nat => (iF (x 3)) (jj : Int)))), (q 7, .inr (1, [.int (iI (20)), .int (iI (80)), .ref (q 8), .int (iI (x 20 0))])), (q 8, .inl (T 0, 1680, .inl (fun jj : Nat => (iF (x 4)) (jj : Int)))), (q 10, .inr (0, [.ref (q 1), .ref (q 11)])), (q 11, .inl (T 0, n, .inl (fun jj : Nat => (iF d) (jj : Int)))), (q 1, .inr (3, [.ref (q 2)])), (q 2, .inl (T 0, n, .inl (fun jj : Nat => (ceF c (x 1)) (jj : Int))))]) rfl (by decide) (by decide) (fun _ => rfl) (by decide) (fun r u_ H locs hq119 hP hD hS => ?_)
                  rcases hq119 with ⟨rfl, h119⟩ | ⟨rfl, h119⟩
                  · refine cx_if_eq (tgt := 145) hx hb d_PR_suppressZeros_122 rfl (by omega) (fun h0 => absurd h0 (by decide)) (fun _ => ?_)
                    refine lv_aload_n hx hb d_PR_suppressZeros_125 rfl (lv_at hl 2 rfl) ?_
                    refine va_get (D := D) (ci := 2) (v := .ref (q 1)) (C := R_PR) (T := T_PR) (N := 12) hx hb hT lays_PR hown hK hP 0 rfl rfl 0 (by decide) (hT _ tw_78) (fun _ h9 => h9) rfl d_PR_suppressZeros_126 ?_
                    refine lv_aload_n hx hb d_PR_suppressZeros_129 rfl (lv_at hl 2 rfl) ?_
                    refine va_get (D := D) (ci := 2) (v := .int (iI (x 13 0))) (C := R_PR) (T := T_PR) (N := 12) hx hb hT lays_PR hown hK hP 0 rfl rfl 7 (by decide) (hT _ tw_87) (fun _ h9 => h9) rfl d_PR_suppressZeros_130 ?_
                    refine lv_iload_n hx hb d_PR_suppressZeros_133 rfl (lv_at hl 0 rfl) ?_
                    refine cx_isub hx hb d_PR_suppressZeros_134 ?_
                    refine cx_iconst hx hb d_PR_suppressZeros_135 ?_
                    refine cx_cV (ws2 := fun _ => prW T q n d (fu c ((x 13 0) - i) (0)) (x 1) (x 2) (x 3) (x 4) (x 11 0) (x 12 0) (x 13 0) (x 14 0) (x 15 0) (x 16 0) (x 17 0) (x 18 0) (x 19 0) (x 20 0)) (cx_rV (q0 := 9) (ci := 3) (rest := []) (As := [.int (iI ((x 13 0) - i)), .int (iI (0))]) hx hb hml hown hT hK hN hP hD hl.1 tw_427 k_ST_write (c_ST_write l D T H.size q n c (x 1) hn hC ((x 13 0) - i) (by omega) 0 (by omega)) ⟨by decide, by decide⟩ ⟨rfl, rfl⟩ [9, 10] (by decide) rfl rfl rfl rfl rfl (Nat.le_of_ble_eq_true rfl) ⟨Nat.zero_le _, Nat.zero_le _⟩ d_PR_suppressZeros_136) hP hD hS hA [9, 10] [0, 1, 2, 3, 4, 5, 6, 7, 8] [0, 1, 2, 3, 4, 5, 6, 7, 8, 9, 10] rfl (wr := [(q 9, .inr (2, [.ref (q 1), .ref (q 3), .ref (q 5), .ref (q 7), .ref (q 10), .int (iI (x 11 0)), .int (iI (x 12 0)), .int (iI (x 13 0)), .int (iI (x 14 0)), .int (iI (x 15 0)), .int (iI (x 16 0)), .int (iI (x 17 0))])), (q 3, .inr (1, [.int (iI (20)), .int (iI (80)), .ref (q 4), .int (iI (x 18 0))])), (q 4, .inl (T 0, 1680, .inl (fun jj : Nat => (iF (x 2)) (jj : Int)))), (q 5, .inr (1, [.int (iI (40)), .int (iI (132)), .ref (q 6), .int (iI (x 19 0))])), (q 6, .inl (T 0, 5412, .inl (fun jj : Nat => (iF (x 3)) (jj : Int)))), (q 7, .inr (1, [.int (iI (20)), .int (iI (80)), .ref (q 8), .int (iI (x 20 0))])), (q 8, .inl (T 0, 1680, .inl (fun jj : Nat => (iF (x 4)) (jj : Int)))), (q 10, .inr (0, [.ref (q 1), .ref (q 11)])), (q 11, .inl (T 0, n, .inl (fun jj : Nat => (iF d) (jj : Int))))]) rfl (by decide) (by decide) (fun _ => rfl) (by decide) (fun u_ H locs hq136 hP hD hS => ?_)
                    have hC : okC (fu c ((x 13 0) - i) (0)) (x 1) := okC_fu hC (by omega)
                    refine cx_iinc (k := 0) (lv' := [(2, .int (iI (i + (-1)))), (1, .int (iI (j))), (0, .ref (q 9))]) hx hb d_PR_suppressZeros_139 hl rfl (by decide) rfl (fun ls hl => ?_)
                    refine lv_goto (tgt := 102) hx hb d_PR_suppressZeros_142 rfl ?_
                    exact ih2 (i + -1) (fu c (x 13 0 - i) 0) _ _ _ (by omega) hC (by rw [hs, spZ_step (by omega), if_pos (by unfold spr at h119; exact h119), show i + -1 + 1 = i by omega]) hP hD hS (lv_sub hl [0, 1, 2] rfl)
                  · refine cx_if_eq (tgt := 145) hx hb d_PR_suppressZeros_122 rfl (by omega) (fun _ => ?_) (fun h0 => absurd h0 (by decide))
                    refine lv_aload_n hx hb d_PR_suppressZeros_145 rfl (lv_at hl 2 rfl) ?_
                    refine lv_dup hx hb d_PR_suppressZeros_146 rfl ?_
                    refine va_get (D := D) (ci := 2) (v := .int (iI (x 12 0))) (C := R_PR) (T := T_PR) (N := 12) hx hb hT lays_PR hown hK hP 0 rfl rfl 6 (by decide) (hT _ tw_85) (fun _ h9 => h9) rfl d_PR_suppressZeros_147 ?_
                    refine lv_iload_n hx hb d_PR_suppressZeros_150 rfl (lv_at hl 1 rfl) ?_
                    refine cx_isub hx hb d_PR_suppressZeros_151 ?_
                    refine va_put (D := D) (ci := 2) (v := .int (iI ((x 12 0) - j))) (ty := .int) (C := R_PR) (T := T_PR) (N := 12) hx hb hT lays_PR t_PR t_PR_ok n_PR hown hK hP hD hS 0 rfl rfl 6 (by decide) (hT _ tw_85) (fun _ h9 => h9) rfl (by decide +kernel) rfl rfl (Nat.le_of_ble_eq_true rfl) d_PR_suppressZeros_152 (fun H locs hP hD hS => ?_)
                    have hP : va_P D vwCl (prW T q n d c (x 1) (x 2) (x 3) (x 4) (x 11 0) ((x 12 0) - j) (x 13 0) (x 14 0) (x 15 0) (x 16 0) (x 17 0) (x 18 0) (x 19 0) (x 20 0)) H := hP
                    have hD : va_D A (prW T q n d c (x 1) (x 2) (x 3) (x 4) (x 11 0) ((x 12 0) - j) (x 13 0) (x 14 0) (x 15 0) (x 16 0) (x 17 0) (x 18 0) (x 19 0) (x 20 0)) := hD
                    refine lv_aload_n hx hb d_PR_suppressZeros_155 rfl (lv_at hl 2 rfl) ?_
                    refine lv_dup hx hb d_PR_suppressZeros_156 rfl ?_
                    refine va_get (D := D) (ci := 2) (v := .int (iI (x 13 0))) (C := R_PR) (T := T_PR) (N := 12) hx hb hT lays_PR hown hK hP 0 rfl rfl 7 (by decide) (hT _ tw_87) (fun _ h9 => h9) rfl d_PR_suppressZeros_157 ?_
                    refine cx_iconst hx hb d_PR_suppressZeros_160 ?_
                    refine cx_iadd hx hb d_PR_suppressZeros_161 ?_
                    refine va_put (D := D) (ci := 2) (v := .int (iI ((x 13 0) + 1))) (ty := .int) (C := R_PR) (T := T_PR) (N := 12) hx hb hT lays_PR t_PR t_PR_ok n_PR hown hK hP hD hS 0 rfl rfl 7 (by decide) (hT _ tw_87) (fun _ h9 => h9) rfl (by decide +kernel) rfl rfl (Nat.le_of_ble_eq_true rfl) d_PR_suppressZeros_162 (fun H locs hP hD hS => ?_)
                    have hP : va_P D vwCl (prW T q n d c (x 1) (x 2) (x 3) (x 4) (x 11 0) ((x 12 0) - j) ((x 13 0) + 1) (x 14 0) (x 15 0) (x 16 0) (x 17 0) (x 18 0) (x 19 0) (x 20 0)) H := hP
                    have hD : va_D A (prW T q n d c (x 1) (x 2) (x 3) (x 4) (x 11 0) ((x 12 0) - j) ((x 13 0) + 1) (x 14 0) (x 15 0) (x 16 0) (x 17 0) (x 18 0) (x 19 0) (x 20 0)) := hD
                    refine cx_iconst hx hb d_PR_suppressZeros_165 ?_
                    exact hret (up (up (up x 0 c) 12 (cst ((x 12 0) - j))) 13 (cst ((x 13 0) + 1))) (pst_of (by unfold supS supK; rw [← hk, if_neg (by omega), hs, spZ_step (by omega), if_neg (by unfold spr at h119; exact h119)]) (show okX (up (up (up x 0 c) 12 (cst ((x 12 0) - j))) 13 (cst ((x 13 0) + 1))) from ⟨hC, (show okR (x 11 0) ((x 12 0) - j) ((x 13 0) + 1) (x 14 0) (x 15 0) (x 16 0) (x 17 0) (x 18 0) (x 19 0) (x 20 0) by have h8 := hX.2.1; unfold okR at h8 ⊢; omega), hX.2.2⟩)) hP hD hS d_PR_suppressZeros_166
            exact L2 2001 (j - 1) (zmN (x 0) (x 12 0) (x 13 0) (j - 1).toNat) _ _ _ (by omega) hC (by rw [show j - 1 + 1 = j by omega]) hP hD hS (lv_sub hl [0, 1, 2] rfl)
          · have hc9 := hC.1 (x 12 0 - j)
            refine lv_aload_n hx hb d_PR_suppressZeros_66 rfl (lv_at hl 2 rfl) ?_
            refine va_get (D := D) (ci := 2) (v := .ref (q 1)) (C := R_PR) (T := T_PR) (N := 12) hx hb hT lays_PR hown hK hP 0 rfl rfl 0 (by decide) (hT _ tw_78) (fun _ h9 => h9) rfl d_PR_suppressZeros_67 ?_
            refine lv_aload_n hx hb d_PR_suppressZeros_70 rfl (lv_at hl 2 rfl) ?_
            refine va_get (D := D) (ci := 2) (v := .int (iI (x 13 0))) (C := R_PR) (T := T_PR) (N := 12) hx hb hT lays_PR hown hK hP 0 rfl rfl 7 (by decide) (hT _ tw_87) (fun _ h9 => h9) rfl d_PR_suppressZeros_71 ?_
            refine lv_iload_n hx hb d_PR_suppressZeros_74 rfl (lv_at hl 0 rfl) ?_
            refine cx_isub hx hb d_PR_suppressZeros_75 ?_
            refine lv_aload_n hx hb d_PR_suppressZeros_76 rfl (lv_at hl 2 rfl) ?_
            refine va_get (D := D) (ci := 2) (v := .ref (q 1)) (C := R_PR) (T := T_PR) (N := 12) hx hb hT lays_PR hown hK hP 0 rfl rfl 0 (by decide) (hT _ tw_78) (fun _ h9 => h9) rfl d_PR_suppressZeros_77 ?_
            refine lv_aload_n hx hb d_PR_suppressZeros_80 rfl (lv_at hl 2 rfl) ?_
            refine va_get (D := D) (ci := 2) (v := .int (iI (x 12 0))) (C := R_PR) (T := T_PR) (N := 12) hx hb hT lays_PR hown hK hP 0 rfl rfl 6 (by decide) (hT _ tw_85) (fun _ h9 => h9) rfl d_PR_suppressZeros_81 ?_
            refine lv_iload_n hx hb d_PR_suppressZeros_84 rfl (lv_at hl 0 rfl) ?_
            refine cx_isub hx hb d_PR_suppressZeros_85 ?_
            refine cx_cI (ws2 := fun _ => prW T q n d (zmN (x 0) (x 12 0) (x 13 0) (j - 1).toNat) (x 1) (x 2) (x 3) (x 4) (x 11 0) (x 12 0) (x 13 0) (x 14 0) (x 15 0) (x 16 0) (x 17 0) (x 18 0) (x 19 0) (x 20 0)) (cx_rV (q0 := 9) (ci := 3) (rest := [.int (iI ((x 13 0) - j)), .ref (q 1)]) (As := [.int (iI ((x 12 0) - j))]) hx hb hml hown hT hK hN hP hD hl.1 tw_322 k_ST_character (c_ST_character l D T H.size q n (zmN (x 0) (x 12 0) (x 13 0) (j - 1).toNat) (x 1) hn hC ((x 12 0) - j) (by omega)) ⟨by decide, by decide⟩ ⟨rfl, rfl⟩ [9, 10] (by decide) rfl rfl rfl rfl rfl (Nat.le_of_ble_eq_true rfl) ⟨Nat.zero_le _, Nat.zero_le _⟩ d_PR_suppressZeros_86) hP hD hS hA [9, 10] [0, 1, 2, 3, 4, 5, 6, 7, 8] [0, 1, 2, 3, 4, 5, 6, 7, 8, 9, 10] rfl (wr := [(q 9, .inr (2, [.ref (q 1), .ref (q 3), .ref (q 5), .ref (q 7), .ref (q 10), .int (iI (x 11 0)), .int (iI (x 12 0)), .int (iI (x 13 0)), .int (iI (x 14 0)), .int (iI (x 15 0)), .int (iI (x 16 0)), .int (iI (x 17 0))])), (q 3, .inr (1, [.int (iI (20)), .int (iI (80)), .ref (q 4), .int (iI (x 18 0))])), (q 4, .inl (T 0, 1680, .inl (fun jj : Nat => (iF (x 2)) (jj : Int)))), (q 5, .inr (1, [.int (iI (40)), .int (iI (132)), .ref (q 6), .int (iI (x 19 0))])), (q 6, .inl (T 0, 5412, .inl (fun jj : Nat => (iF (x 3)) (jj : Int)))), (q 7, .inr (1, [.int (iI (20)), .int (iI (80)), .ref (q 8), .int (iI (x 20 0))])), (q 8, .inl (T 0, 1680, .inl (fun jj : Nat => (iF (x 4)) (jj : Int)))), (q 10, .inr (0, [.ref (q 1), .ref (q 11)])), (q 11, .inl (T 0, n, .inl (fun jj : Nat => (iF d) (jj : Int))))]) rfl (by decide) (by decide) (fun _ => rfl) (by decide) (fun r u_ H locs hq86 hP hD hS => ?_)
            subst hq86
            refine cx_cV (ws2 := fun _ => prW T q n d (fu (zmN (x 0) (x 12 0) (x 13 0) (j - 1).toNat) ((x 13 0) - j) ((zmN (x 0) (x 12 0) (x 13 0) (j - 1).toNat) ((x 12 0) - j))) (x 1) (x 2) (x 3) (x 4) (x 11 0) (x 12 0) (x 13 0) (x 14 0) (x 15 0) (x 16 0) (x 17 0) (x 18 0) (x 19 0) (x 20 0)) (cx_rV (q0 := 9) (ci := 3) (rest := []) (As := [.int (iI ((x 13 0) - j)), .int (iI ((zmN (x 0) (x 12 0) (x 13 0) (j - 1).toNat) ((x 12 0) - j)))]) hx hb hml hown hT hK hN hP hD hl.1 tw_427 k_ST_write (c_ST_write l D T H.size q n (zmN (x 0) (x 12 0) (x 13 0) (j - 1).toNat) (x 1) hn hC ((x 13 0) - j) (by omega) ((zmN (x 0) (x 12 0) (x 13 0) (j - 1).toNat) ((x 12 0) - j)) (by omega)) ⟨by decide, by decide⟩ ⟨rfl, rfl⟩ [9, 10] (by decide) rfl rfl rfl rfl rfl (Nat.le_of_ble_eq_true rfl) ⟨Nat.zero_le _, Nat.zero_le _⟩ d_PR_suppressZeros_89) hP hD hS hA [9, 10] [0, 1, 2, 3, 4, 5, 6, 7, 8] [0, 1, 2, 3, 4, 5, 6, 7, 8, 9, 10] rfl (wr := [(q 9, .inr (2, [.ref (q 1), .ref (q 3), .ref (q 5), .ref (q 7), .ref (q 10), .int (iI (x 11 0)), .int (iI (x 12 0)), .int (iI (x 13 0)), .int (iI (x 14 0)), .int (iI (x 15 0)), .int (iI (x 16 0)), .int (iI (x 17 0))])), (q 3, .inr (1, [.int (iI (20)), .int (iI (80)), .ref (q 4), .int (iI (x 18 0))])), (q 4, .inl (T 0, 1680, .inl (fun jj : Nat => (iF (x 2)) (jj : Int)))), (q 5, .inr (1, [.int (iI (40)), .int (iI (132)), .ref (q 6), .int (iI (x 19 0))])), (q 6, .inl (T 0, 5412, .inl (fun jj : Nat => (iF (x 3)) (jj : Int)))), (q 7, .inr (1, [.int (iI (20)), .int (iI (80)), .ref (q 8), .int (iI (x 20 0))])), (q 8, .inl (T 0, 1680, .inl (fun jj : Nat => (iF (x 4)) (jj : Int)))), (q 10, .inr (0, [.ref (q 1), .ref (q 11)])), (q 11, .inl (T 0, n, .inl (fun jj : Nat => (iF d) (jj : Int))))]) rfl (by decide) (by decide) (fun _ => rfl) (by decide) (fun u_ H locs hq89 hP hD hS => ?_)
            have hC : okC (fu (zmN (x 0) (x 12 0) (x 13 0) (j - 1).toNat) ((x 13 0) - j) ((zmN (x 0) (x 12 0) (x 13 0) (j - 1).toNat) ((x 12 0) - j))) (x 1) := okC_fu hC (by omega)
            refine cx_iinc (k := 0) (lv' := [(2, .int (iI (j + 1))), (1, .int (iI (k))), (0, .ref (q 9))]) hx hb d_PR_suppressZeros_92 hl rfl (by decide) rfl (fun ls hl => ?_)
            refine lv_goto (tgt := 61) hx hb d_PR_suppressZeros_95 rfl ?_
            rw [zmN_step (by omega)] at hP hD hC
            exact ih1 (j + 1) _ _ _ (by omega) hC hP hD hS (lv_sub hl [0, 1, 2] rfl)
      exact L1 2001 1 _ _ _ (by omega) hC hP hD hS (lv_sub hl [0, 1, 2] rfl)
    · refine cx_if_ne (tgt := 34) hx hb d_PR_suppressZeros_29 rfl (by omega) (fun h0 => absurd h0 (by decide)) (fun _ => ?_)
      refine cx_iconst hx hb d_PR_suppressZeros_32 ?_
      exact hret x (pst_of (by unfold supS supK; rw [if_pos (by rw [← hk]; unfold flr at *; omega)]) hX) hP hD hS d_PR_suppressZeros_33

set_option maxHeartbeats 4000000 in
set_option maxRecDepth 100000 in
theorem c_PR_isIndicated (l : Launch) (D : va_G) (T : Nat → ClassId) (sz : Nat) (q : Nat → Nat) (n : Nat) (hn : 400 ≤ n ∧ n ≤ 2000) (d : Int → Int) (x : SX) (hX : okX x) (v : Int) (hv : 0 ≤ v ∧ v < 64) : MI l y_PR_isIndicated (wY y_PR_isIndicated b_PR_isIndicated 2 (some .boolean)) (rmK 1) D vwCl (tyL T) nwL sz [.ref (q 9), .int (iI (v))] (prW T q n d (x 0) (x 1) (x 2) (x 3) (x 4) (x 11 0) (x 12 0) (x 13 0) (x 14 0) (x 15 0) (x 16 0) (x 17 0) (x 18 0) (x 19 0) (x 20 0)) (fun r u => pst (ind v x, ovo v x) r u) (fun u => prX T q n d u) := by
  refine cx_inZ (by decide) rfl (Nat.le_of_ble_eq_true rfl) ?_
  intro p e s m below meth cd ls A Q hx hb hml hT hown hret hP hK hD hN hS hA hl
  have hown : s.vm.findClass R_PR = some m.cls := hown
  have hl : lv_has ls 2 [(0, .ref (q 9)), (1, .int (iI (v)))] := hl
  have hC := hX.1
  have hR0 := hX.2.1
  have hF := hX.2.2
  unfold okR at hR0
  refine lv_iload_n hx hb d_PR_isIndicated_0 rfl (lv_at hl 1 rfl) ?_
  obtain ⟨k9, hk9⟩ : ∃ k : Fin 64, v = (k.val : Int) := fin64 (by omega)
  by_cases hs68 : v = 0
  · refine cx_lsw (tgt := 68) (off := 67) hx hb d_PR_isIndicated_1 (by omega) (by rw [hk9]; exact sw_isIndicated_68 k9 (by omega)) rfl ?_
    refine cx_iconst hx hb d_PR_isIndicated_68 ?_
    exact hret x (Or.inr rfl) (pst_of (by unfold ind ovo; simp only [Prod.mk.injEq]; constructor <;> (repeat (first | rfl | omega | (rw [if_pos (by omega)]) | (rw [if_neg (by omega)])))) hX) hP hD hS d_PR_isIndicated_69
  by_cases hs70 : v = 17
  · refine cx_lsw (tgt := 70) (off := 69) hx hb d_PR_isIndicated_1 (by omega) (by rw [hk9]; exact sw_isIndicated_70 k9 (by omega)) rfl ?_
    refine lv_aload_n hx hb d_PR_isIndicated_70 rfl (lv_at hl 0 rfl) ?_
    refine va_get (D := D) (ci := 2) (v := .int (iI (x 14 0))) (C := R_PR) (T := T_PR) (N := 12) hx hb hT lays_PR hown hK hP 0 rfl rfl 8 (by decide) (hT _ tw_90) (fun _ h9 => h9) rfl d_PR_isIndicated_71 ?_
    refine cx_if_eq (tgt := 81) hx hb d_PR_isIndicated_74 rfl (by omega) (fun h74 => ?_) (fun h74 => ?_)
    · refine cx_iconst hx hb d_PR_isIndicated_81 ?_
      exact hret x (Or.inl rfl) (pst_of (by unfold ind ovo; simp only [Prod.mk.injEq]; constructor <;> (repeat (first | rfl | omega | (rw [if_pos (by omega)]) | (rw [if_neg (by omega)])))) hX) hP hD hS d_PR_isIndicated_82
    · refine cx_iconst hx hb d_PR_isIndicated_77 ?_
      refine lv_goto (tgt := 82) hx hb d_PR_isIndicated_78 rfl ?_
      exact hret x (Or.inr rfl) (pst_of (by unfold ind ovo; simp only [Prod.mk.injEq]; constructor <;> (repeat (first | rfl | omega | (rw [if_pos (by omega)]) | (rw [if_neg (by omega)])))) hX) hP hD hS d_PR_isIndicated_82
  by_cases hs83 : v = 18
  · refine cx_lsw (tgt := 83) (off := 82) hx hb d_PR_isIndicated_1 (by omega) (by rw [hk9]; exact sw_isIndicated_83 k9 (by omega)) rfl ?_
    refine lv_aload_n hx hb d_PR_isIndicated_83 rfl (lv_at hl 0 rfl) ?_
    refine va_get (D := D) (ci := 2) (v := .int (iI (x 14 0))) (C := R_PR) (T := T_PR) (N := 12) hx hb hT lays_PR hown hK hP 0 rfl rfl 8 (by decide) (hT _ tw_90) (fun _ h9 => h9) rfl d_PR_isIndicated_84 ?_
    refine cx_if_ne (tgt := 94) hx hb d_PR_isIndicated_87 rfl (by omega) (fun h87 => ?_) (fun h87 => ?_)
    · refine cx_iconst hx hb d_PR_isIndicated_94 ?_
      exact hret x (Or.inl rfl) (pst_of (by unfold ind ovo; simp only [Prod.mk.injEq]; constructor <;> (repeat (first | rfl | omega | (rw [if_pos (by omega)]) | (rw [if_neg (by omega)])))) hX) hP hD hS d_PR_isIndicated_95
    · refine cx_iconst hx hb d_PR_isIndicated_90 ?_
      refine lv_goto (tgt := 95) hx hb d_PR_isIndicated_91 rfl ?_
      exact hret x (Or.inr rfl) (pst_of (by unfold ind ovo; simp only [Prod.mk.injEq]; constructor <;> (repeat (first | rfl | omega | (rw [if_pos (by omega)]) | (rw [if_neg (by omega)])))) hX) hP hD hS d_PR_isIndicated_95
  by_cases hs96 : v = 19
  · refine cx_lsw (tgt := 96) (off := 95) hx hb d_PR_isIndicated_1 (by omega) (by rw [hk9]; exact sw_isIndicated_96 k9 (by omega)) rfl ?_
    refine lv_aload_n hx hb d_PR_isIndicated_96 rfl (lv_at hl 0 rfl) ?_
    refine va_get (D := D) (ci := 2) (v := .int (iI (x 14 0))) (C := R_PR) (T := T_PR) (N := 12) hx hb hT lays_PR hown hK hP 0 rfl rfl 8 (by decide) (hT _ tw_90) (fun _ h9 => h9) rfl d_PR_isIndicated_97 ?_
    refine cx_if_ge (tgt := 107) hx hb d_PR_isIndicated_100 rfl (by omega) (fun h100 => ?_) (fun h100 => ?_)
    · refine cx_iconst hx hb d_PR_isIndicated_107 ?_
      exact hret x (Or.inl rfl) (pst_of (by unfold ind ovo; simp only [Prod.mk.injEq]; constructor <;> (repeat (first | rfl | omega | (rw [if_pos (by omega)]) | (rw [if_neg (by omega)])))) hX) hP hD hS d_PR_isIndicated_108
    · refine cx_iconst hx hb d_PR_isIndicated_103 ?_
      refine lv_goto (tgt := 108) hx hb d_PR_isIndicated_104 rfl ?_
      exact hret x (Or.inr rfl) (pst_of (by unfold ind ovo; simp only [Prod.mk.injEq]; constructor <;> (repeat (first | rfl | omega | (rw [if_pos (by omega)]) | (rw [if_neg (by omega)])))) hX) hP hD hS d_PR_isIndicated_108
  by_cases hs109 : v = 20
  · refine cx_lsw (tgt := 109) (off := 108) hx hb d_PR_isIndicated_1 (by omega) (by rw [hk9]; exact sw_isIndicated_109 k9 (by omega)) rfl ?_
    refine lv_aload_n hx hb d_PR_isIndicated_109 rfl (lv_at hl 0 rfl) ?_
    refine va_get (D := D) (ci := 2) (v := .int (iI (x 14 0))) (C := R_PR) (T := T_PR) (N := 12) hx hb hT lays_PR hown hK hP 0 rfl rfl 8 (by decide) (hT _ tw_90) (fun _ h9 => h9) rfl d_PR_isIndicated_110 ?_
    refine cx_if_le (tgt := 120) hx hb d_PR_isIndicated_113 rfl (by omega) (fun h113 => ?_) (fun h113 => ?_)
    · refine cx_iconst hx hb d_PR_isIndicated_120 ?_
      exact hret x (Or.inl rfl) (pst_of (by unfold ind ovo; simp only [Prod.mk.injEq]; constructor <;> (repeat (first | rfl | omega | (rw [if_pos (by omega)]) | (rw [if_neg (by omega)])))) hX) hP hD hS d_PR_isIndicated_121
    · refine cx_iconst hx hb d_PR_isIndicated_116 ?_
      refine lv_goto (tgt := 121) hx hb d_PR_isIndicated_117 rfl ?_
      exact hret x (Or.inr rfl) (pst_of (by unfold ind ovo; simp only [Prod.mk.injEq]; constructor <;> (repeat (first | rfl | omega | (rw [if_pos (by omega)]) | (rw [if_neg (by omega)])))) hX) hP hD hS d_PR_isIndicated_121
  by_cases hs122 : v = 25
  · refine cx_lsw (tgt := 122) (off := 121) hx hb d_PR_isIndicated_1 (by omega) (by rw [hk9]; exact sw_isIndicated_122 k9 (by omega)) rfl ?_
    refine lv_aload_n hx hb d_PR_isIndicated_122 rfl (lv_at hl 0 rfl) ?_
    refine cx_cI (ws2 := fun _ => prW T q n d (x 0) (x 1) (x 2) (x 3) (x 4) (x 11 0) (x 12 0) (x 13 0) (x 14 0) 0 (x 16 0) (x 17 0) (x 18 0) (x 19 0) (x 20 0)) (cx_rV (q0 := 0) (ci := 2) (rest := []) (As := []) hx hb hml hown hT hK hN hP hD hl.1 tw_498 k_PR_takeOverflow (c_PR_takeOverflow l D T s.heap.size q n hn d x hX ) ⟨by decide, by decide⟩ ⟨rfl, rfl⟩ [0, 1, 2, 3, 4, 5, 6, 7, 8, 9, 10] (by decide) rfl rfl rfl rfl rfl (Nat.le_of_ble_eq_true rfl) ⟨Nat.zero_le _, Nat.zero_le _⟩ d_PR_isIndicated_123) hP hD hS hA [0, 1, 2, 3, 4, 5, 6, 7, 8, 9, 10] [] [0, 1, 2, 3, 4, 5, 6, 7, 8, 9, 10] rfl (wr := []) rfl (by decide) (by decide) (fun _ => rfl) (by decide) (fun r u_ H locs hq123 hP hD hS => ?_)
    subst hq123
    exact hret (up x 15 (cst 0)) (bool_of (by omega)) (pst_of (by unfold ind ovo; simp only [Prod.mk.injEq]; constructor <;> (repeat (first | rfl | omega | (rw [if_pos (by omega)]) | (rw [if_neg (by omega)])))) (show okX (up x 15 (cst 0)) from ⟨hX.1, (show okR (x 11 0) (x 12 0) (x 13 0) (x 14 0) 0 (x 16 0) (x 17 0) (x 18 0) (x 19 0) (x 20 0) by have h8 := hX.2.1; unfold okR at h8 ⊢; omega), hX.2.2⟩)) hP hD hS d_PR_isIndicated_126
  by_cases hs127 : v = 49
  · refine cx_lsw (tgt := 127) (off := 126) hx hb d_PR_isIndicated_1 (by omega) (by rw [hk9]; exact sw_isIndicated_127 k9 (by omega)) rfl ?_
    refine lv_aload_n hx hb d_PR_isIndicated_127 rfl (lv_at hl 0 rfl) ?_
    refine va_get (D := D) (ci := 2) (v := .int (iI (x 16 0))) (C := R_PR) (T := T_PR) (N := 12) hx hb hT lays_PR hown hK hP 0 rfl rfl 10 (by decide) (hT _ tw_94) (fun _ h9 => h9) rfl d_PR_isIndicated_128 ?_
    exact hret x (bool_of (by omega)) (pst_of (by unfold ind ovo; simp only [Prod.mk.injEq]; constructor <;> (repeat (first | rfl | omega | (rw [if_pos (by omega)]) | (rw [if_neg (by omega)])))) hX) hP hD hS d_PR_isIndicated_131
  refine cx_lsw (tgt := 132) (off := 131) hx hb d_PR_isIndicated_1 (by omega) (by rw [hk9]; exact sw_isIndicated_d k9 (by omega)) rfl ?_
  refine cx_iconst hx hb d_PR_isIndicated_132 ?_
  exact hret x (Or.inl rfl) (pst_of (by unfold ind ovo; simp only [Prod.mk.injEq]; constructor <;> (repeat (first | rfl | omega | (rw [if_pos (by omega)]) | (rw [if_neg (by omega)])))) hX) hP hD hS d_PR_isIndicated_133

set_option maxHeartbeats 4000000 in
set_option maxRecDepth 100000 in
theorem c_PR_branch (l : Launch) (D : va_G) (T : Nat → ClassId) (sz : Nat) (q : Nat → Nat) (n : Nat) (hn : 400 ≤ n ∧ n ≤ 2000) (d : Int → Int) (x : SX) (hX : okX x) (k : Int) (hk : 1 ≤ k ∧ k ≤ 8) (hI : 1 ≤ x 11 0 ∧ x 11 0 ≤ n) : MI l y_PR_branch (wY y_PR_branch b_PR_branch 3 (some .int)) (rmK 2) D vwCl (tyL T) nwL sz [.ref (q 9), .int (iI (k))] (prW T q n d (x 0) (x 1) (x 2) (x 3) (x 4) (x 11 0) (x 12 0) (x 13 0) (x 14 0) (x 15 0) (x 16 0) (x 17 0) (x 18 0) (x 19 0) (x 20 0)) (fun r u => pst (brnS n k x) r u) (fun u => prX T q n d u) := by
  refine cx_inI (by decide) rfl (Nat.le_of_ble_eq_true rfl) ?_
  intro p e s m below meth cd ls A Q hx hb hml hT hown hret hP hK hD hN hS hA hl
  have hown : s.vm.findClass R_PR = some m.cls := hown
  have hl : lv_has ls 3 [(0, .ref (q 9)), (1, .int (iI (k)))] := hl
  have hC := hX.1
  have hR0 := hX.2.1
  have hF := hX.2.2
  unfold okR at hR0
  have hcB := hC.1 (x 13 0)
  have hcM := hC.1 (x 11 0 - 1)
  refine lv_iload_n hx hb d_PR_branch_0 rfl (lv_at hl 1 rfl) ?_
  refine cx_bipush hx hb d_PR_branch_1 rfl ?_
  refine cx_icmp_ne (tgt := 22) hx hb d_PR_branch_3 rfl (by omega) (by omega) (fun h3 => ?_) (fun h3 => ?_)
  · refine cx_iconst hx hb d_PR_branch_22 ?_
    refine lv_istore_n (lv' := [(2, .int (iI (1))), (0, .ref (q 9)), (1, .int (iI (k)))]) hx hb d_PR_branch_23 rfl hl (by decide) rfl (fun ls hl => ?_)
    refine lv_iload_n hx hb d_PR_branch_24 rfl (lv_at hl 2 rfl) ?_
    refine cx_iconst hx hb d_PR_branch_25 ?_
    refine cx_icmp_ne (tgt := 41) hx hb d_PR_branch_26 rfl (by omega) (by omega) (fun h26 => ?_) (fun h26 => ?_)
    · refine lv_iload_n hx hb d_PR_branch_41 rfl (lv_at hl 2 rfl) ?_
      refine cx_bipush hx hb d_PR_branch_42 rfl ?_
      refine cx_icmp_ne (tgt := 81) hx hb d_PR_branch_44 rfl (by omega) (by omega) (fun h44 => ?_) (fun h44 => absurd h44 (by omega))
      refine lv_iload_n hx hb d_PR_branch_81 rfl (lv_at hl 0 rfl) ?_
      refine cx_if_eq (tgt := 89) hx hb d_PR_branch_82 rfl (by omega) (fun h0 => absurd h0 (by decide)) (fun _ => ?_)
      refine lv_aload_n hx hb d_PR_branch_85 rfl (lv_at hl 1 rfl) ?_
      refine cx_cV (ws2 := fun _ => prW T q n d ((goS x) 0) ((goS x) 1) ((goS x) 2) ((goS x) 3) ((goS x) 4) ((goS x) 11 0) ((goS x) 12 0) ((goS x) 13 0) ((goS x) 14 0) ((goS x) 15 0) ((goS x) 16 0) ((goS x) 17 0) ((goS x) 18 0) ((goS x) 19 0) ((goS x) 20 0)) (cx_rV (q0 := 0) (ci := 2) (rest := []) (As := []) hx hb hml hown hT hK hN hP hD hl.1 tw_475 k_PR_goThere (c_PR_goThere l D T s.heap.size q n hn d x hX) ⟨by decide, by decide⟩ ⟨rfl, rfl⟩ [0, 1, 2, 3, 4, 5, 6, 7, 8, 9, 10] (by decide) rfl rfl rfl rfl rfl (Nat.le_of_ble_eq_true rfl) ⟨Nat.zero_le _, Nat.zero_le _⟩ d_PR_branch_86) hP hD hS hA [0, 1, 2, 3, 4, 5, 6, 7, 8, 9, 10] [] [0, 1, 2, 3, 4, 5, 6, 7, 8, 9, 10] rfl (wr := []) rfl (by decide) (by decide) (fun _ => rfl) (by decide) (fun u_ H locs hq86 hP hD hS => ?_)
      refine cx_iconst hx hb d_PR_branch_89 ?_
      exact hret ((goS x)) (pst_of (by unfold brnS; rw [if_neg h3, if_neg h26]) (goS_ok hX)) hP hD hS d_PR_branch_90
    · subst h26
      refine lv_aload_n hx hb d_PR_branch_29 rfl (lv_at hl 1 rfl) ?_
      refine lv_aload_n hx hb d_PR_branch_30 rfl (lv_at hl 1 rfl) ?_
      refine cx_cI (ws2 := fun _ => prW T q n d (x 0) (x 1) (x 2) (x 3) (x 4) (x 11 0) (x 12 0) (x 13 0) (x 14 0) (x 15 0) (x 16 0) (x 17 0) (x 18 0) (x 19 0) (x 20 0)) (cx_rV (q0 := 0) (ci := 2) (rest := [.ref (q 9)]) (As := []) hx hb hml hown hT hK hN hP hD hl.1 tw_490 k_PR_modifier (c_PR_modifier l D T s.heap.size q n hn d x hX (by omega)) ⟨by decide, by decide⟩ ⟨rfl, rfl⟩ [0, 1, 2, 3, 4, 5, 6, 7, 8, 9, 10] (by decide) rfl rfl rfl rfl rfl (Nat.le_of_ble_eq_true rfl) ⟨Nat.zero_le _, Nat.zero_le _⟩ d_PR_branch_31) hP hD hS hA [0, 1, 2, 3, 4, 5, 6, 7, 8, 9, 10] [] [0, 1, 2, 3, 4, 5, 6, 7, 8, 9, 10] rfl (wr := []) rfl (by decide) (by decide) (fun _ => rfl) (by decide) (fun r u_ H locs hq31 hP hD hS => ?_)
      subst hq31
      refine cx_cI (ws2 := fun u => prX T q n d u) (cx_rV (q0 := 0) (ci := 2) (rest := []) (As := [.int (iI ((x 0) (x 11 0 - 1)))]) hx hb hml hown hT hK hN hP hD hl.1 tw_494 k_PR_isIndicated (c_PR_isIndicated l D T H.size q n hn d x hX ((x 0) (x 11 0 - 1)) (by omega)) ⟨by decide, by decide⟩ ⟨rfl, rfl⟩ [0, 1, 2, 3, 4, 5, 6, 7, 8, 9, 10] (by decide) rfl rfl rfl rfl rfl (Nat.le_of_ble_eq_true rfl) ⟨Nat.zero_le _, Nat.zero_le _⟩ d_PR_branch_34) hP hD hS hA [0, 1, 2, 3, 4, 5, 6, 7, 8, 9, 10] [] [0, 1, 2, 3, 4, 5, 6, 7, 8, 9, 10] rfl (wr := []) rfl (by decide) (by decide) (fun _ => rfl) (by decide) (fun r u_ H locs hq34 hP hD hS => ?_)
      obtain ⟨rfl, rfl, hE⟩ := hq34
      have hi9 := ind_in ((x 0) (x 11 0 - 1)) hX
      refine lv_istore_n (lv' := [(2, .int (iI (ind ((x 0) (x 11 0 - 1)) x))), (0, .ref (q 9)), (1, .int (iI (5)))]) hx hb d_PR_branch_37 rfl hl (by decide) rfl (fun ls hl => ?_)
      refine lv_goto (tgt := 81) hx hb d_PR_branch_38 rfl ?_
      refine lv_iload_n hx hb d_PR_branch_81 rfl (lv_at hl 0 rfl) ?_
      refine cx_if_eq (tgt := 89) hx hb d_PR_branch_82 rfl (by omega) (fun h82 => ?_) (fun h82 => ?_)
      · refine cx_iconst hx hb d_PR_branch_89 ?_
        exact hret ((ovo ((x 0) (x 11 0 - 1)) x)) (pst_of (by unfold brnS; rw [if_neg (by decide), if_pos rfl]; unfold gof; rw [if_pos h82]) hE) hP hD hS d_PR_branch_90
      · refine lv_aload_n hx hb d_PR_branch_85 rfl (lv_at hl 1 rfl) ?_
        refine cx_cV (ws2 := fun _ => prW T q n d ((goS ((ovo ((x 0) (x 11 0 - 1)) x))) 0) ((goS ((ovo ((x 0) (x 11 0 - 1)) x))) 1) ((goS ((ovo ((x 0) (x 11 0 - 1)) x))) 2) ((goS ((ovo ((x 0) (x 11 0 - 1)) x))) 3) ((goS ((ovo ((x 0) (x 11 0 - 1)) x))) 4) ((goS ((ovo ((x 0) (x 11 0 - 1)) x))) 11 0) ((goS ((ovo ((x 0) (x 11 0 - 1)) x))) 12 0) ((goS ((ovo ((x 0) (x 11 0 - 1)) x))) 13 0) ((goS ((ovo ((x 0) (x 11 0 - 1)) x))) 14 0) ((goS ((ovo ((x 0) (x 11 0 - 1)) x))) 15 0) ((goS ((ovo ((x 0) (x 11 0 - 1)) x))) 16 0) ((goS ((ovo ((x 0) (x 11 0 - 1)) x))) 17 0) ((goS ((ovo ((x 0) (x 11 0 - 1)) x))) 18 0) ((goS ((ovo ((x 0) (x 11 0 - 1)) x))) 19 0) ((goS ((ovo ((x 0) (x 11 0 - 1)) x))) 20 0)) (cx_rV (q0 := 0) (ci := 2) (rest := []) (As := []) hx hb hml hown hT hK hN hP hD hl.1 tw_475 k_PR_goThere (c_PR_goThere l D T H.size q n hn d ((ovo ((x 0) (x 11 0 - 1)) x)) hE) ⟨by decide, by decide⟩ ⟨rfl, rfl⟩ [0, 1, 2, 3, 4, 5, 6, 7, 8, 9, 10] (by decide) rfl rfl rfl rfl rfl (Nat.le_of_ble_eq_true rfl) ⟨Nat.zero_le _, Nat.zero_le _⟩ d_PR_branch_86) hP hD hS hA [0, 1, 2, 3, 4, 5, 6, 7, 8, 9, 10] [] [0, 1, 2, 3, 4, 5, 6, 7, 8, 9, 10] rfl (wr := []) rfl (by decide) (by decide) (fun _ => rfl) (by decide) (fun u_ H locs hq86 hP hD hS => ?_)
        refine cx_iconst hx hb d_PR_branch_89 ?_
        exact hret ((goS ((ovo ((x 0) (x 11 0 - 1)) x)))) (pst_of (by unfold brnS; rw [if_neg (by decide), if_pos rfl]; unfold gof; rw [if_neg h82]) (goS_ok hE)) hP hD hS d_PR_branch_90
  · subst h3
    refine lv_aload_n hx hb d_PR_branch_6 rfl (lv_at hl 0 rfl) ?_
    refine va_get (D := D) (ci := 2) (v := .ref (q 1)) (C := R_PR) (T := T_PR) (N := 12) hx hb hT lays_PR hown hK hP 0 rfl rfl 0 (by decide) (hT _ tw_78) (fun _ h9 => h9) rfl d_PR_branch_7 ?_
    refine lv_aload_n hx hb d_PR_branch_10 rfl (lv_at hl 0 rfl) ?_
    refine va_get (D := D) (ci := 2) (v := .int (iI (x 13 0))) (C := R_PR) (T := T_PR) (N := 12) hx hb hT lays_PR hown hK hP 0 rfl rfl 7 (by decide) (hT _ tw_87) (fun _ h9 => h9) rfl d_PR_branch_11 ?_
    refine cx_cI (ws2 := fun _ => prW T q n d (x 0) (x 1) (x 2) (x 3) (x 4) (x 11 0) (x 12 0) (x 13 0) (x 14 0) (x 15 0) (x 16 0) (x 17 0) (x 18 0) (x 19 0) (x 20 0)) (cx_rV (q0 := 9) (ci := 3) (rest := []) (As := [.int (iI (x 13 0))]) hx hb hml hown hT hK hN hP hD hl.1 tw_320 k_ST_has (c_ST_has l D T s.heap.size q n (x 0) (x 1) hn (x 13 0) (by omega)) ⟨by decide, by decide⟩ ⟨rfl, rfl⟩ [9, 10] (by decide) rfl rfl rfl rfl rfl (Nat.le_of_ble_eq_true rfl) ⟨Nat.zero_le _, Nat.zero_le _⟩ d_PR_branch_14) hP hD hS hA [9, 10] [0, 1, 2, 3, 4, 5, 6, 7, 8] [0, 1, 2, 3, 4, 5, 6, 7, 8, 9, 10] rfl (wr := [(q 9, .inr (2, [.ref (q 1), .ref (q 3), .ref (q 5), .ref (q 7), .ref (q 10), .int (iI (x 11 0)), .int (iI (x 12 0)), .int (iI (x 13 0)), .int (iI (x 14 0)), .int (iI (x 15 0)), .int (iI (x 16 0)), .int (iI (x 17 0))])), (q 3, .inr (1, [.int (iI (20)), .int (iI (80)), .ref (q 4), .int (iI (x 18 0))])), (q 4, .inl (T 0, 1680, .inl (fun jj : Nat => (iF (x 2)) (jj : Int)))), (q 5, .inr (1, [.int (iI (40)), .int (iI (132)), .ref (q 6), .int (iI (x 19 0))])), (q 6, .inl (T 0, 5412, .inl (fun jj : Nat => (iF (x 3)) (jj : Int)))), (q 7, .inr (1, [.int (iI (20)), .int (iI (80)), .ref (q 8), .int (iI (x 20 0))])), (q 8, .inl (T 0, 1680, .inl (fun jj : Nat => (iF (x 4)) (jj : Int)))), (q 10, .inr (0, [.ref (q 1), .ref (q 11)])), (q 11, .inl (T 0, n, .inl (fun jj : Nat => (iF d) (jj : Int))))]) rfl (by decide) (by decide) (fun _ => rfl) (by decide) (fun r u_ H locs hq14 hP hD hS => ?_)
    rcases hq14 with ⟨rfl, h14⟩ | ⟨rfl, h14⟩
    · refine cx_if_ne (tgt := 22) hx hb d_PR_branch_17 rfl (by omega) (fun _ => ?_) (fun h0 => absurd h0 (by decide))
      refine cx_iconst hx hb d_PR_branch_22 ?_
      refine lv_istore_n (lv' := [(2, .int (iI (1))), (0, .ref (q 9)), (1, .int (iI (8)))]) hx hb d_PR_branch_23 rfl hl (by decide) rfl (fun ls hl => ?_)
      refine lv_iload_n hx hb d_PR_branch_24 rfl (lv_at hl 2 rfl) ?_
      refine cx_iconst hx hb d_PR_branch_25 ?_
      refine cx_icmp_ne (tgt := 41) hx hb d_PR_branch_26 rfl (by omega) (by omega) (fun _ => ?_) (fun h0 => absurd h0 (by decide))
      refine lv_iload_n hx hb d_PR_branch_41 rfl (lv_at hl 2 rfl) ?_
      refine cx_bipush hx hb d_PR_branch_42 rfl ?_
      refine cx_icmp_ne (tgt := 81) hx hb d_PR_branch_44 rfl (by omega) (by omega) (fun h0 => absurd h0 (by decide)) (fun _ => ?_)
      refine lv_aload_n hx hb d_PR_branch_47 rfl (lv_at hl 1 rfl) ?_
      refine va_get (D := D) (ci := 2) (v := .ref (q 1)) (C := R_PR) (T := T_PR) (N := 12) hx hb hT lays_PR hown hK hP 0 rfl rfl 0 (by decide) (hT _ tw_78) (fun _ h9 => h9) rfl d_PR_branch_48 ?_
      refine lv_aload_n hx hb d_PR_branch_51 rfl (lv_at hl 1 rfl) ?_
      refine va_get (D := D) (ci := 2) (v := .int (iI (x 13 0))) (C := R_PR) (T := T_PR) (N := 12) hx hb hT lays_PR hown hK hP 0 rfl rfl 7 (by decide) (hT _ tw_87) (fun _ h9 => h9) rfl d_PR_branch_52 ?_
      refine cx_cI (ws2 := fun _ => prW T q n d (x 0) (x 1) (x 2) (x 3) (x 4) (x 11 0) (x 12 0) (x 13 0) (x 14 0) (x 15 0) (x 16 0) (x 17 0) (x 18 0) (x 19 0) (x 20 0)) (cx_rV (q0 := 9) (ci := 3) (rest := []) (As := [.int (iI (x 13 0))]) hx hb hml hown hT hK hN hP hD hl.1 tw_322 k_ST_character (c_ST_character l D T H.size q n (x 0) (x 1) hn hC (x 13 0) (by omega)) ⟨by decide, by decide⟩ ⟨rfl, rfl⟩ [9, 10] (by decide) rfl rfl rfl rfl rfl (Nat.le_of_ble_eq_true rfl) ⟨Nat.zero_le _, Nat.zero_le _⟩ d_PR_branch_55) hP hD hS hA [9, 10] [0, 1, 2, 3, 4, 5, 6, 7, 8] [0, 1, 2, 3, 4, 5, 6, 7, 8, 9, 10] rfl (wr := [(q 9, .inr (2, [.ref (q 1), .ref (q 3), .ref (q 5), .ref (q 7), .ref (q 10), .int (iI (x 11 0)), .int (iI (x 12 0)), .int (iI (x 13 0)), .int (iI (x 14 0)), .int (iI (x 15 0)), .int (iI (x 16 0)), .int (iI (x 17 0))])), (q 3, .inr (1, [.int (iI (20)), .int (iI (80)), .ref (q 4), .int (iI (x 18 0))])), (q 4, .inl (T 0, 1680, .inl (fun jj : Nat => (iF (x 2)) (jj : Int)))), (q 5, .inr (1, [.int (iI (40)), .int (iI (132)), .ref (q 6), .int (iI (x 19 0))])), (q 6, .inl (T 0, 5412, .inl (fun jj : Nat => (iF (x 3)) (jj : Int)))), (q 7, .inr (1, [.int (iI (20)), .int (iI (80)), .ref (q 8), .int (iI (x 20 0))])), (q 8, .inl (T 0, 1680, .inl (fun jj : Nat => (iF (x 4)) (jj : Int)))), (q 10, .inr (0, [.ref (q 1), .ref (q 11)])), (q 11, .inl (T 0, n, .inl (fun jj : Nat => (iF d) (jj : Int))))]) rfl (by decide) (by decide) (fun _ => rfl) (by decide) (fun r u_ H locs hq55 hP hD hS => ?_)
      subst hq55
      refine lv_aload_n hx hb d_PR_branch_58 rfl (lv_at hl 1 rfl) ?_
      refine cx_cI (ws2 := fun _ => prW T q n d (x 0) (x 1) (x 2) (x 3) (x 4) (x 11 0) (x 12 0) (x 13 0) (x 14 0) (x 15 0) (x 16 0) (x 17 0) (x 18 0) (x 19 0) (x 20 0)) (cx_rV (q0 := 0) (ci := 2) (rest := [.int (iI ((x 0) (x 13 0)))]) (As := []) hx hb hml hown hT hK hN hP hD hl.1 tw_490 k_PR_modifier (c_PR_modifier l D T H.size q n hn d x hX (by omega)) ⟨by decide, by decide⟩ ⟨rfl, rfl⟩ [0, 1, 2, 3, 4, 5, 6, 7, 8, 9, 10] (by decide) rfl rfl rfl rfl rfl (Nat.le_of_ble_eq_true rfl) ⟨Nat.zero_le _, Nat.zero_le _⟩ d_PR_branch_59) hP hD hS hA [0, 1, 2, 3, 4, 5, 6, 7, 8, 9, 10] [] [0, 1, 2, 3, 4, 5, 6, 7, 8, 9, 10] rfl (wr := []) rfl (by decide) (by decide) (fun _ => rfl) (by decide) (fun r u_ H locs hq59 hP hD hS => ?_)
      subst hq59
      refine cx_icmp_ne (tgt := 69) hx hb d_PR_branch_62 rfl (by omega) (by omega) (fun h62 => ?_) (fun h62 => ?_)
      · refine cx_iconst hx hb d_PR_branch_69 ?_
        refine lv_istore_n (lv' := [(2, .int (iI (0))), (0, .ref (q 9)), (1, .int (iI (8)))]) hx hb d_PR_branch_70 rfl hl (by decide) rfl (fun ls hl => ?_)
        refine lv_aload_n hx hb d_PR_branch_71 rfl (lv_at hl 1 rfl) ?_
        refine lv_dup hx hb d_PR_branch_72 rfl ?_
        refine va_get (D := D) (ci := 2) (v := .int (iI (x 13 0))) (C := R_PR) (T := T_PR) (N := 12) hx hb hT lays_PR hown hK hP 0 rfl rfl 7 (by decide) (hT _ tw_87) (fun _ h9 => h9) rfl d_PR_branch_73 ?_
        refine cx_iconst hx hb d_PR_branch_76 ?_
        refine cx_isub hx hb d_PR_branch_77 ?_
        refine va_put (D := D) (ci := 2) (v := .int (iI ((x 13 0) - 1))) (ty := .int) (C := R_PR) (T := T_PR) (N := 12) hx hb hT lays_PR t_PR t_PR_ok n_PR hown hK hP hD hS 0 rfl rfl 7 (by decide) (hT _ tw_87) (fun _ h9 => h9) rfl (by decide +kernel) rfl rfl (Nat.le_of_ble_eq_true rfl) d_PR_branch_78 (fun H locs hP hD hS => ?_)
        have hP : va_P D vwCl (prW T q n d (x 0) (x 1) (x 2) (x 3) (x 4) (x 11 0) (x 12 0) ((x 13 0) - 1) (x 14 0) (x 15 0) (x 16 0) (x 17 0) (x 18 0) (x 19 0) (x 20 0)) H := hP
        have hD : va_D A (prW T q n d (x 0) (x 1) (x 2) (x 3) (x 4) (x 11 0) (x 12 0) ((x 13 0) - 1) (x 14 0) (x 15 0) (x 16 0) (x 17 0) (x 18 0) (x 19 0) (x 20 0)) := hD
        refine lv_iload_n hx hb d_PR_branch_81 rfl (lv_at hl 0 rfl) ?_
        refine cx_if_eq (tgt := 89) hx hb d_PR_branch_82 rfl (by omega) (fun _ => ?_) (fun h0 => absurd h0 (by decide))
        refine cx_iconst hx hb d_PR_branch_89 ?_
        exact hret (up x 13 (cst ((x 13 0) - 1))) (pst_of (by unfold brnS; rw [if_pos rfl, if_pos (by omega), if_neg h62]; rfl) (show okX (up x 13 (cst ((x 13 0) - 1))) from ⟨hX.1, (show okR (x 11 0) (x 12 0) ((x 13 0) - 1) (x 14 0) (x 15 0) (x 16 0) (x 17 0) (x 18 0) (x 19 0) (x 20 0) by have h8 := hX.2.1; unfold okR at h8 ⊢; omega), hX.2.2⟩)) hP hD hS d_PR_branch_90
      · refine cx_iconst hx hb d_PR_branch_65 ?_
        refine lv_goto (tgt := 70) hx hb d_PR_branch_66 rfl ?_
        refine lv_istore_n (lv' := [(2, .int (iI (1))), (0, .ref (q 9)), (1, .int (iI (8)))]) hx hb d_PR_branch_70 rfl hl (by decide) rfl (fun ls hl => ?_)
        refine lv_aload_n hx hb d_PR_branch_71 rfl (lv_at hl 1 rfl) ?_
        refine lv_dup hx hb d_PR_branch_72 rfl ?_
        refine va_get (D := D) (ci := 2) (v := .int (iI (x 13 0))) (C := R_PR) (T := T_PR) (N := 12) hx hb hT lays_PR hown hK hP 0 rfl rfl 7 (by decide) (hT _ tw_87) (fun _ h9 => h9) rfl d_PR_branch_73 ?_
        refine cx_iconst hx hb d_PR_branch_76 ?_
        refine cx_isub hx hb d_PR_branch_77 ?_
        refine va_put (D := D) (ci := 2) (v := .int (iI ((x 13 0) - 1))) (ty := .int) (C := R_PR) (T := T_PR) (N := 12) hx hb hT lays_PR t_PR t_PR_ok n_PR hown hK hP hD hS 0 rfl rfl 7 (by decide) (hT _ tw_87) (fun _ h9 => h9) rfl (by decide +kernel) rfl rfl (Nat.le_of_ble_eq_true rfl) d_PR_branch_78 (fun H locs hP hD hS => ?_)
        have hP : va_P D vwCl (prW T q n d (x 0) (x 1) (x 2) (x 3) (x 4) (x 11 0) (x 12 0) ((x 13 0) - 1) (x 14 0) (x 15 0) (x 16 0) (x 17 0) (x 18 0) (x 19 0) (x 20 0)) H := hP
        have hD : va_D A (prW T q n d (x 0) (x 1) (x 2) (x 3) (x 4) (x 11 0) (x 12 0) ((x 13 0) - 1) (x 14 0) (x 15 0) (x 16 0) (x 17 0) (x 18 0) (x 19 0) (x 20 0)) := hD
        refine lv_iload_n hx hb d_PR_branch_81 rfl (lv_at hl 0 rfl) ?_
        refine cx_if_eq (tgt := 89) hx hb d_PR_branch_82 rfl (by omega) (fun h0 => absurd h0 (by decide)) (fun _ => ?_)
        refine lv_aload_n hx hb d_PR_branch_85 rfl (lv_at hl 1 rfl) ?_
        refine cx_cV (ws2 := fun _ => prW T q n d ((goS (up x 13 (cst ((x 13 0) - 1)))) 0) ((goS (up x 13 (cst ((x 13 0) - 1)))) 1) ((goS (up x 13 (cst ((x 13 0) - 1)))) 2) ((goS (up x 13 (cst ((x 13 0) - 1)))) 3) ((goS (up x 13 (cst ((x 13 0) - 1)))) 4) ((goS (up x 13 (cst ((x 13 0) - 1)))) 11 0) ((goS (up x 13 (cst ((x 13 0) - 1)))) 12 0) ((goS (up x 13 (cst ((x 13 0) - 1)))) 13 0) ((goS (up x 13 (cst ((x 13 0) - 1)))) 14 0) ((goS (up x 13 (cst ((x 13 0) - 1)))) 15 0) ((goS (up x 13 (cst ((x 13 0) - 1)))) 16 0) ((goS (up x 13 (cst ((x 13 0) - 1)))) 17 0) ((goS (up x 13 (cst ((x 13 0) - 1)))) 18 0) ((goS (up x 13 (cst ((x 13 0) - 1)))) 19 0) ((goS (up x 13 (cst ((x 13 0) - 1)))) 20 0)) (cx_rV (q0 := 0) (ci := 2) (rest := []) (As := []) hx hb hml hown hT hK hN hP hD hl.1 tw_475 k_PR_goThere (c_PR_goThere l D T H.size q n hn d (up x 13 (cst ((x 13 0) - 1))) (show okX (up x 13 (cst ((x 13 0) - 1))) from ⟨hX.1, (show okR (x 11 0) (x 12 0) ((x 13 0) - 1) (x 14 0) (x 15 0) (x 16 0) (x 17 0) (x 18 0) (x 19 0) (x 20 0) by have h8 := hX.2.1; unfold okR at h8 ⊢; omega), hX.2.2⟩)) ⟨by decide, by decide⟩ ⟨rfl, rfl⟩ [0, 1, 2, 3, 4, 5, 6, 7, 8, 9, 10] (by decide) rfl rfl rfl rfl rfl (Nat.le_of_ble_eq_true rfl) ⟨Nat.zero_le _, Nat.zero_le _⟩ d_PR_branch_86) hP hD hS hA [0, 1, 2, 3, 4, 5, 6, 7, 8, 9, 10] [] [0, 1, 2, 3, 4, 5, 6, 7, 8, 9, 10] rfl (wr := []) rfl (by decide) (by decide) (fun _ => rfl) (by decide) (fun u_ H locs hq86 hP hD hS => ?_)
        refine cx_iconst hx hb d_PR_branch_89 ?_
        exact hret ((goS (up x 13 (cst ((x 13 0) - 1))))) (pst_of (by unfold brnS; rw [if_pos rfl, if_pos (by omega), if_pos h62]; rfl) (goS_ok (show okX (up x 13 (cst ((x 13 0) - 1))) from ⟨hX.1, (show okR (x 11 0) (x 12 0) ((x 13 0) - 1) (x 14 0) (x 15 0) (x 16 0) (x 17 0) (x 18 0) (x 19 0) (x 20 0) by have h8 := hX.2.1; unfold okR at h8 ⊢; omega), hX.2.2⟩))) hP hD hS d_PR_branch_90
    · refine cx_if_ne (tgt := 22) hx hb d_PR_branch_17 rfl (by omega) (fun h0 => absurd h0 (by decide)) (fun _ => ?_)
      refine cx_iconst hx hb d_PR_branch_20 ?_
      exact hret x (pst_of (by unfold brnS; rw [if_pos rfl, if_neg (by omega)]) hX) hP hD hS d_PR_branch_21

set_option maxHeartbeats 4000000 in
set_option maxRecDepth 100000 in
theorem c_PR_isAsAsked (l : Launch) (D : va_G) (T : Nat → ClassId) (sz : Nat) (q : Nat → Nat) (n : Nat) (hn : 400 ≤ n ∧ n ≤ 2000) (d : Int → Int) (x : SX) (hX : okX x) (z : Int) (hz : 0 ≤ z ∧ z < n) (v : Int) (hv : 0 ≤ v ∧ v < 64) : MI l y_PR_isAsAsked (wY y_PR_isAsAsked b_PR_isAsAsked 4 (some .boolean)) (rmK 1) D vwCl (tyL T) nwL sz [.ref (q 9), .int (iI (z)), .int (iI (v))] (prW T q n d (x 0) (x 1) (x 2) (x 3) (x 4) (x 11 0) (x 12 0) (x 13 0) (x 14 0) (x 15 0) (x 16 0) (x 17 0) (x 18 0) (x 19 0) (x 20 0)) (fun r (_ : Unit) => r = iI (asd (x 1 z) (x 0 z) v)) (fun _ => prX T q n d x) := by
  refine cx_inZ (by decide) rfl (Nat.le_of_ble_eq_true rfl) ?_
  intro p e s m below meth cd ls A Q hx hb hml hT hown hret hP hK hD hN hS hA hl
  have hown : s.vm.findClass R_PR = some m.cls := hown
  have hl : lv_has ls 4 [(0, .ref (q 9)), (1, .int (iI (z))), (2, .int (iI (v)))] := hl
  have hC := hX.1
  have hR0 := hX.2.1
  have hF := hX.2.2
  unfold okR at hR0
  have h1 := zn_in (hC.1 z)
  have h2 := zn_in hv
  have h3 := hC.2 z
  refine lv_aload_n hx hb d_PR_isAsAsked_0 rfl (lv_at hl 0 rfl) ?_
  refine va_get (D := D) (ci := 2) (v := .ref (q 1)) (C := R_PR) (T := T_PR) (N := 12) hx hb hT lays_PR hown hK hP 0 rfl rfl 0 (by decide) (hT _ tw_78) (fun _ h9 => h9) rfl d_PR_isAsAsked_1 ?_
  refine lv_iload_n hx hb d_PR_isAsAsked_4 rfl (lv_at hl 1 rfl) ?_
  refine cx_cI (ws2 := fun _ => prW T q n d (x 0) (x 1) (x 2) (x 3) (x 4) (x 11 0) (x 12 0) (x 13 0) (x 14 0) (x 15 0) (x 16 0) (x 17 0) (x 18 0) (x 19 0) (x 20 0)) (cx_rV (q0 := 9) (ci := 3) (rest := []) (As := [.int (iI (z))]) hx hb hml hown hT hK hN hP hD hl.1 tw_510 k_ST_zone (c_ST_zone l D T s.heap.size q n (x 0) (x 1) hn hC z (by omega)) ⟨by decide, by decide⟩ ⟨rfl, rfl⟩ [9, 10] (by decide) rfl rfl rfl rfl rfl (Nat.le_of_ble_eq_true rfl) ⟨Nat.zero_le _, Nat.zero_le _⟩ d_PR_isAsAsked_5) hP hD hS hA [9, 10] [0, 1, 2, 3, 4, 5, 6, 7, 8] [0, 1, 2, 3, 4, 5, 6, 7, 8, 9, 10] rfl (wr := [(q 9, .inr (2, [.ref (q 1), .ref (q 3), .ref (q 5), .ref (q 7), .ref (q 10), .int (iI (x 11 0)), .int (iI (x 12 0)), .int (iI (x 13 0)), .int (iI (x 14 0)), .int (iI (x 15 0)), .int (iI (x 16 0)), .int (iI (x 17 0))])), (q 3, .inr (1, [.int (iI (20)), .int (iI (80)), .ref (q 4), .int (iI (x 18 0))])), (q 4, .inl (T 0, 1680, .inl (fun jj : Nat => (iF (x 2)) (jj : Int)))), (q 5, .inr (1, [.int (iI (40)), .int (iI (132)), .ref (q 6), .int (iI (x 19 0))])), (q 6, .inl (T 0, 5412, .inl (fun jj : Nat => (iF (x 3)) (jj : Int)))), (q 7, .inr (1, [.int (iI (20)), .int (iI (80)), .ref (q 8), .int (iI (x 20 0))])), (q 8, .inl (T 0, 1680, .inl (fun jj : Nat => (iF (x 4)) (jj : Int)))), (q 10, .inr (0, [.ref (q 1), .ref (q 11)])), (q 11, .inl (T 0, n, .inl (fun jj : Nat => (iF d) (jj : Int))))]) rfl (by decide) (by decide) (fun _ => rfl) (by decide) (fun r u_ H locs hq5 hP hD hS => ?_)
  subst hq5
  refine lv_iload_n hx hb d_PR_isAsAsked_8 rfl (lv_at hl 2 rfl) ?_
  refine cx_bipush hx hb d_PR_isAsAsked_9 rfl ?_
  refine lv_iand hx hb d_PR_isAsAsked_11 ?_
  refine cx_eq (show iI v &&& iI 48 = iI (zn v) from bt_c48 hv) ?_
  refine cx_icmp_ne (tgt := 19) hx hb d_PR_isAsAsked_12 rfl (by omega) (by omega) (fun h12 => ?_) (fun h12 => ?_)
  · refine cx_iconst hx hb d_PR_isAsAsked_19 ?_
    refine lv_istore_n (lv' := [(3, .int (iI (0))), (0, .ref (q 9)), (1, .int (iI (z))), (2, .int (iI (v)))]) hx hb d_PR_isAsAsked_20 rfl hl (by decide) rfl (fun ls hl => ?_)
    refine lv_iload_n hx hb d_PR_isAsAsked_21 rfl (lv_at hl 3 rfl) ?_
    obtain ⟨k9, hk9⟩ : ∃ k : Fin 64, v = (k.val : Int) := fin64 (by omega)
    by_cases hs104 : v = 1
    · refine cx_lsw (tgt := 104) (off := 82) hx hb d_PR_isAsAsked_22 (by omega) (by rw [hk9]; exact sw_isAsAsked_104 k9 (by omega)) rfl ?_
      refine lv_aload_n hx hb d_PR_isAsAsked_104 rfl (lv_at hl 1 rfl) ?_
      refine va_get (D := D) (ci := 2) (v := .ref (q 1)) (C := R_PR) (T := T_PR) (N := 12) hx hb hT lays_PR hown hK hP 0 rfl rfl 0 (by decide) (hT _ tw_78) (fun _ h9 => h9) rfl d_PR_isAsAsked_105 ?_
      refine lv_iload_n hx hb d_PR_isAsAsked_108 rfl (lv_at hl 2 rfl) ?_
      refine cx_cI (ws2 := fun _ => prW T q n d (x 0) (x 1) (x 2) (x 3) (x 4) (x 11 0) (x 12 0) (x 13 0) (x 14 0) (x 15 0) (x 16 0) (x 17 0) (x 18 0) (x 19 0) (x 20 0)) (cx_rV (q0 := 9) (ci := 3) (rest := []) (As := [.int (iI (z))]) hx hb hml hown hT hK hN hP hD hl.1 tw_321 k_ST_hasMark (c_ST_hasMark l D T H.size q n (x 0) (x 1) hn hC z (by omega)) ⟨by decide, by decide⟩ ⟨rfl, rfl⟩ [9, 10] (by decide) rfl rfl rfl rfl rfl (Nat.le_of_ble_eq_true rfl) ⟨Nat.zero_le _, Nat.zero_le _⟩ d_PR_isAsAsked_109) hP hD hS hA [9, 10] [0, 1, 2, 3, 4, 5, 6, 7, 8] [0, 1, 2, 3, 4, 5, 6, 7, 8, 9, 10] rfl (wr := [(q 9, .inr (2, [.ref (q 1), .ref (q 3), .ref (q 5), .ref (q 7), .ref (q 10), .int (iI (x 11 0)), .int (iI (x 12 0)), .int (iI (x 13 0)), .int (iI (x 14 0)), .int (iI (x 15 0)), .int (iI (x 16 0)), .int (iI (x 17 0))])), (q 3, .inr (1, [.int (iI (20)), .int (iI (80)), .ref (q 4), .int (iI (x 18 0))])), (q 4, .inl (T 0, 1680, .inl (fun jj : Nat => (iF (x 2)) (jj : Int)))), (q 5, .inr (1, [.int (iI (40)), .int (iI (132)), .ref (q 6), .int (iI (x 19 0))])), (q 6, .inl (T 0, 5412, .inl (fun jj : Nat => (iF (x 3)) (jj : Int)))), (q 7, .inr (1, [.int (iI (20)), .int (iI (80)), .ref (q 8), .int (iI (x 20 0))])), (q 8, .inl (T 0, 1680, .inl (fun jj : Nat => (iF (x 4)) (jj : Int)))), (q 10, .inr (0, [.ref (q 1), .ref (q 11)])), (q 11, .inl (T 0, n, .inl (fun jj : Nat => (iF d) (jj : Int))))]) rfl (by decide) (by decide) (fun _ => rfl) (by decide) (fun r u_ H locs hq109 hP hD hS => ?_)
      rcases hq109 with ⟨rfl, h109⟩ | ⟨rfl, h109⟩
      · exact hret () (Or.inr rfl) (by unfold asd; repeat (first | rfl | omega | (rw [if_pos (by omega)]) | (rw [if_neg (by omega)]) | (congr 1; omega))) hP hD hS d_PR_isAsAsked_112
      · exact hret () (Or.inl rfl) (by unfold asd; repeat (first | rfl | omega | (rw [if_pos (by omega)]) | (rw [if_neg (by omega)]) | (congr 1; omega))) hP hD hS d_PR_isAsAsked_112
    by_cases hs113 : v = 2 ∨ v = 18 ∨ v = 34 ∨ v = 50
    · refine cx_lsw (tgt := 113) (off := 91) hx hb d_PR_isAsAsked_22 (by omega) (by rw [hk9]; exact sw_isAsAsked_113 k9 (by omega)) rfl ?_
      refine lv_iload_n hx hb d_PR_isAsAsked_113 rfl (lv_at hl 0 rfl) ?_
      exact hret () (Or.inl rfl) (by unfold asd; repeat (first | rfl | omega | (rw [if_pos (by omega)]) | (rw [if_neg (by omega)]) | (congr 1; omega))) hP hD hS d_PR_isAsAsked_114
    by_cases hs115 : v = 3 ∨ v = 19 ∨ v = 35 ∨ v = 51
    · refine cx_lsw (tgt := 115) (off := 93) hx hb d_PR_isAsAsked_22 (by omega) (by rw [hk9]; exact sw_isAsAsked_115 k9 (by omega)) rfl ?_
      refine lv_aload_n hx hb d_PR_isAsAsked_115 rfl (lv_at hl 1 rfl) ?_
      refine va_get (D := D) (ci := 2) (v := .ref (q 1)) (C := R_PR) (T := T_PR) (N := 12) hx hb hT lays_PR hown hK hP 0 rfl rfl 0 (by decide) (hT _ tw_78) (fun _ h9 => h9) rfl d_PR_isAsAsked_116 ?_
      refine lv_iload_n hx hb d_PR_isAsAsked_119 rfl (lv_at hl 2 rfl) ?_
      refine cx_cI (ws2 := fun _ => prW T q n d (x 0) (x 1) (x 2) (x 3) (x 4) (x 11 0) (x 12 0) (x 13 0) (x 14 0) (x 15 0) (x 16 0) (x 17 0) (x 18 0) (x 19 0) (x 20 0)) (cx_rV (q0 := 9) (ci := 3) (rest := []) (As := [.int (iI (z))]) hx hb hml hown hT hK hN hP hD hl.1 tw_321 k_ST_hasMark (c_ST_hasMark l D T H.size q n (x 0) (x 1) hn hC z (by omega)) ⟨by decide, by decide⟩ ⟨rfl, rfl⟩ [9, 10] (by decide) rfl rfl rfl rfl rfl (Nat.le_of_ble_eq_true rfl) ⟨Nat.zero_le _, Nat.zero_le _⟩ d_PR_isAsAsked_120) hP hD hS hA [9, 10] [0, 1, 2, 3, 4, 5, 6, 7, 8] [0, 1, 2, 3, 4, 5, 6, 7, 8, 9, 10] rfl (wr := [(q 9, .inr (2, [.ref (q 1), .ref (q 3), .ref (q 5), .ref (q 7), .ref (q 10), .int (iI (x 11 0)), .int (iI (x 12 0)), .int (iI (x 13 0)), .int (iI (x 14 0)), .int (iI (x 15 0)), .int (iI (x 16 0)), .int (iI (x 17 0))])), (q 3, .inr (1, [.int (iI (20)), .int (iI (80)), .ref (q 4), .int (iI (x 18 0))])), (q 4, .inl (T 0, 1680, .inl (fun jj : Nat => (iF (x 2)) (jj : Int)))), (q 5, .inr (1, [.int (iI (40)), .int (iI (132)), .ref (q 6), .int (iI (x 19 0))])), (q 6, .inl (T 0, 5412, .inl (fun jj : Nat => (iF (x 3)) (jj : Int)))), (q 7, .inr (1, [.int (iI (20)), .int (iI (80)), .ref (q 8), .int (iI (x 20 0))])), (q 8, .inl (T 0, 1680, .inl (fun jj : Nat => (iF (x 4)) (jj : Int)))), (q 10, .inr (0, [.ref (q 1), .ref (q 11)])), (q 11, .inl (T 0, n, .inl (fun jj : Nat => (iF d) (jj : Int))))]) rfl (by decide) (by decide) (fun _ => rfl) (by decide) (fun r u_ H locs hq120 hP hD hS => ?_)
      rcases hq120 with ⟨rfl, h120⟩ | ⟨rfl, h120⟩
      · refine cx_if_ne (tgt := 130) hx hb d_PR_isAsAsked_123 rfl (by omega) (fun _ => ?_) (fun h0 => absurd h0 (by decide))
        refine cx_iconst hx hb d_PR_isAsAsked_130 ?_
        refine lv_goto (tgt := 135) hx hb d_PR_isAsAsked_131 rfl ?_
        exact hret () (Or.inr rfl) (by unfold asd; repeat (first | rfl | omega | (rw [if_pos (by omega)]) | (rw [if_neg (by omega)]) | (congr 1; omega))) hP hD hS d_PR_isAsAsked_135
      · refine cx_if_ne (tgt := 130) hx hb d_PR_isAsAsked_123 rfl (by omega) (fun h0 => absurd h0 (by decide)) (fun _ => ?_)
        refine lv_iload_n hx hb d_PR_isAsAsked_126 rfl (lv_at hl 0 rfl) ?_
        refine cx_if_eq (tgt := 134) hx hb d_PR_isAsAsked_127 rfl (by omega) (fun _ => ?_) (fun h0 => absurd h0 (by decide))
        refine cx_iconst hx hb d_PR_isAsAsked_134 ?_
        exact hret () (Or.inl rfl) (by unfold asd; repeat (first | rfl | omega | (rw [if_pos (by omega)]) | (rw [if_neg (by omega)]) | (congr 1; omega))) hP hD hS d_PR_isAsAsked_135
    refine cx_lsw (tgt := 136) (off := 114) hx hb d_PR_isAsAsked_22 (by omega) (by rw [hk9]; exact sw_isAsAsked_d k9 (by omega)) rfl ?_
    refine cx_iconst hx hb d_PR_isAsAsked_136 ?_
    exact hret () (Or.inl rfl) (by unfold asd; repeat (first | rfl | omega | (rw [if_pos (by omega)]) | (rw [if_neg (by omega)]) | (congr 1; omega))) hP hD hS d_PR_isAsAsked_137
  · refine cx_iconst hx hb d_PR_isAsAsked_15 ?_
    refine lv_goto (tgt := 20) hx hb d_PR_isAsAsked_16 rfl ?_
    refine lv_istore_n (lv' := [(3, .int (iI (1))), (0, .ref (q 9)), (1, .int (iI (z))), (2, .int (iI (v)))]) hx hb d_PR_isAsAsked_20 rfl hl (by decide) rfl (fun ls hl => ?_)
    refine lv_iload_n hx hb d_PR_isAsAsked_21 rfl (lv_at hl 3 rfl) ?_
    obtain ⟨k9, hk9⟩ : ∃ k : Fin 64, v = (k.val : Int) := fin64 (by omega)
    by_cases hs104 : v = 1
    · refine cx_lsw (tgt := 104) (off := 82) hx hb d_PR_isAsAsked_22 (by omega) (by rw [hk9]; exact sw_isAsAsked_104 k9 (by omega)) rfl ?_
      refine lv_aload_n hx hb d_PR_isAsAsked_104 rfl (lv_at hl 1 rfl) ?_
      refine va_get (D := D) (ci := 2) (v := .ref (q 1)) (C := R_PR) (T := T_PR) (N := 12) hx hb hT lays_PR hown hK hP 0 rfl rfl 0 (by decide) (hT _ tw_78) (fun _ h9 => h9) rfl d_PR_isAsAsked_105 ?_
      refine lv_iload_n hx hb d_PR_isAsAsked_108 rfl (lv_at hl 2 rfl) ?_
      refine cx_cI (ws2 := fun _ => prW T q n d (x 0) (x 1) (x 2) (x 3) (x 4) (x 11 0) (x 12 0) (x 13 0) (x 14 0) (x 15 0) (x 16 0) (x 17 0) (x 18 0) (x 19 0) (x 20 0)) (cx_rV (q0 := 9) (ci := 3) (rest := []) (As := [.int (iI (z))]) hx hb hml hown hT hK hN hP hD hl.1 tw_321 k_ST_hasMark (c_ST_hasMark l D T H.size q n (x 0) (x 1) hn hC z (by omega)) ⟨by decide, by decide⟩ ⟨rfl, rfl⟩ [9, 10] (by decide) rfl rfl rfl rfl rfl (Nat.le_of_ble_eq_true rfl) ⟨Nat.zero_le _, Nat.zero_le _⟩ d_PR_isAsAsked_109) hP hD hS hA [9, 10] [0, 1, 2, 3, 4, 5, 6, 7, 8] [0, 1, 2, 3, 4, 5, 6, 7, 8, 9, 10] rfl (wr := [(q 9, .inr (2, [.ref (q 1), .ref (q 3), .ref (q 5), .ref (q 7), .ref (q 10), .int (iI (x 11 0)), .int (iI (x 12 0)), .int (iI (x 13 0)), .int (iI (x 14 0)), .int (iI (x 15 0)), .int (iI (x 16 0)), .int (iI (x 17 0))])), (q 3, .inr (1, [.int (iI (20)), .int (iI (80)), .ref (q 4), .int (iI (x 18 0))])), (q 4, .inl (T 0, 1680, .inl (fun jj : Nat => (iF (x 2)) (jj : Int)))), (q 5, .inr (1, [.int (iI (40)), .int (iI (132)), .ref (q 6), .int (iI (x 19 0))])), (q 6, .inl (T 0, 5412, .inl (fun jj : Nat => (iF (x 3)) (jj : Int)))), (q 7, .inr (1, [.int (iI (20)), .int (iI (80)), .ref (q 8), .int (iI (x 20 0))])), (q 8, .inl (T 0, 1680, .inl (fun jj : Nat => (iF (x 4)) (jj : Int)))), (q 10, .inr (0, [.ref (q 1), .ref (q 11)])), (q 11, .inl (T 0, n, .inl (fun jj : Nat => (iF d) (jj : Int))))]) rfl (by decide) (by decide) (fun _ => rfl) (by decide) (fun r u_ H locs hq109 hP hD hS => ?_)
      rcases hq109 with ⟨rfl, h109⟩ | ⟨rfl, h109⟩
      · exact hret () (Or.inr rfl) (by unfold asd; repeat (first | rfl | omega | (rw [if_pos (by omega)]) | (rw [if_neg (by omega)]) | (congr 1; omega))) hP hD hS d_PR_isAsAsked_112
      · exact hret () (Or.inl rfl) (by unfold asd; repeat (first | rfl | omega | (rw [if_pos (by omega)]) | (rw [if_neg (by omega)]) | (congr 1; omega))) hP hD hS d_PR_isAsAsked_112
    by_cases hs113 : v = 2 ∨ v = 18 ∨ v = 34 ∨ v = 50
    · refine cx_lsw (tgt := 113) (off := 91) hx hb d_PR_isAsAsked_22 (by omega) (by rw [hk9]; exact sw_isAsAsked_113 k9 (by omega)) rfl ?_
      refine lv_iload_n hx hb d_PR_isAsAsked_113 rfl (lv_at hl 0 rfl) ?_
      exact hret () (Or.inr rfl) (by unfold asd; repeat (first | rfl | omega | (rw [if_pos (by omega)]) | (rw [if_neg (by omega)]) | (congr 1; omega))) hP hD hS d_PR_isAsAsked_114
    by_cases hs115 : v = 3 ∨ v = 19 ∨ v = 35 ∨ v = 51
    · refine cx_lsw (tgt := 115) (off := 93) hx hb d_PR_isAsAsked_22 (by omega) (by rw [hk9]; exact sw_isAsAsked_115 k9 (by omega)) rfl ?_
      refine lv_aload_n hx hb d_PR_isAsAsked_115 rfl (lv_at hl 1 rfl) ?_
      refine va_get (D := D) (ci := 2) (v := .ref (q 1)) (C := R_PR) (T := T_PR) (N := 12) hx hb hT lays_PR hown hK hP 0 rfl rfl 0 (by decide) (hT _ tw_78) (fun _ h9 => h9) rfl d_PR_isAsAsked_116 ?_
      refine lv_iload_n hx hb d_PR_isAsAsked_119 rfl (lv_at hl 2 rfl) ?_
      refine cx_cI (ws2 := fun _ => prW T q n d (x 0) (x 1) (x 2) (x 3) (x 4) (x 11 0) (x 12 0) (x 13 0) (x 14 0) (x 15 0) (x 16 0) (x 17 0) (x 18 0) (x 19 0) (x 20 0)) (cx_rV (q0 := 9) (ci := 3) (rest := []) (As := [.int (iI (z))]) hx hb hml hown hT hK hN hP hD hl.1 tw_321 k_ST_hasMark (c_ST_hasMark l D T H.size q n (x 0) (x 1) hn hC z (by omega)) ⟨by decide, by decide⟩ ⟨rfl, rfl⟩ [9, 10] (by decide) rfl rfl rfl rfl rfl (Nat.le_of_ble_eq_true rfl) ⟨Nat.zero_le _, Nat.zero_le _⟩ d_PR_isAsAsked_120) hP hD hS hA [9, 10] [0, 1, 2, 3, 4, 5, 6, 7, 8] [0, 1, 2, 3, 4, 5, 6, 7, 8, 9, 10] rfl (wr := [(q 9, .inr (2, [.ref (q 1), .ref (q 3), .ref (q 5), .ref (q 7), .ref (q 10), .int (iI (x 11 0)), .int (iI (x 12 0)), .int (iI (x 13 0)), .int (iI (x 14 0)), .int (iI (x 15 0)), .int (iI (x 16 0)), .int (iI (x 17 0))])), (q 3, .inr (1, [.int (iI (20)), .int (iI (80)), .ref (q 4), .int (iI (x 18 0))])), (q 4, .inl (T 0, 1680, .inl (fun jj : Nat => (iF (x 2)) (jj : Int)))), (q 5, .inr (1, [.int (iI (40)), .int (iI (132)), .ref (q 6), .int (iI (x 19 0))])), (q 6, .inl (T 0, 5412, .inl (fun jj : Nat => (iF (x 3)) (jj : Int)))), (q 7, .inr (1, [.int (iI (20)), .int (iI (80)), .ref (q 8), .int (iI (x 20 0))])), (q 8, .inl (T 0, 1680, .inl (fun jj : Nat => (iF (x 4)) (jj : Int)))), (q 10, .inr (0, [.ref (q 1), .ref (q 11)])), (q 11, .inl (T 0, n, .inl (fun jj : Nat => (iF d) (jj : Int))))]) rfl (by decide) (by decide) (fun _ => rfl) (by decide) (fun r u_ H locs hq120 hP hD hS => ?_)
      rcases hq120 with ⟨rfl, h120⟩ | ⟨rfl, h120⟩
      · refine cx_if_ne (tgt := 130) hx hb d_PR_isAsAsked_123 rfl (by omega) (fun _ => ?_) (fun h0 => absurd h0 (by decide))
        refine cx_iconst hx hb d_PR_isAsAsked_130 ?_
        refine lv_goto (tgt := 135) hx hb d_PR_isAsAsked_131 rfl ?_
        exact hret () (Or.inr rfl) (by unfold asd; repeat (first | rfl | omega | (rw [if_pos (by omega)]) | (rw [if_neg (by omega)]) | (congr 1; omega))) hP hD hS d_PR_isAsAsked_135
      · refine cx_if_ne (tgt := 130) hx hb d_PR_isAsAsked_123 rfl (by omega) (fun h0 => absurd h0 (by decide)) (fun _ => ?_)
        refine lv_iload_n hx hb d_PR_isAsAsked_126 rfl (lv_at hl 0 rfl) ?_
        refine cx_if_eq (tgt := 134) hx hb d_PR_isAsAsked_127 rfl (by omega) (fun h0 => absurd h0 (by decide)) (fun _ => ?_)
        refine cx_iconst hx hb d_PR_isAsAsked_130 ?_
        refine lv_goto (tgt := 135) hx hb d_PR_isAsAsked_131 rfl ?_
        exact hret () (Or.inr rfl) (by unfold asd; repeat (first | rfl | omega | (rw [if_pos (by omega)]) | (rw [if_neg (by omega)]) | (congr 1; omega))) hP hD hS d_PR_isAsAsked_135
    refine cx_lsw (tgt := 136) (off := 114) hx hb d_PR_isAsAsked_22 (by omega) (by rw [hk9]; exact sw_isAsAsked_d k9 (by omega)) rfl ?_
    refine cx_iconst hx hb d_PR_isAsAsked_136 ?_
    exact hret () (Or.inl rfl) (by unfold asd; repeat (first | rfl | omega | (rw [if_pos (by omega)]) | (rw [if_neg (by omega)]) | (congr 1; omega))) hP hD hS d_PR_isAsAsked_137

set_option maxHeartbeats 4000000 in
set_option maxRecDepth 100000 in
theorem c_PR_branchByPosition (l : Launch) (D : va_G) (T : Nat → ClassId) (sz : Nat) (q : Nat → Nat) (n : Nat) (hn : 400 ≤ n ∧ n ≤ 2000) (d : Int → Int) (x : SX) (hX : okX x) (hI : 1 ≤ x 11 0 ∧ x 11 0 ≤ n) : MI l y_PR_branchByPosition (wY y_PR_branchByPosition b_PR_branchByPosition 2 (some .int)) (rmK 2) D vwCl (tyL T) nwL sz [.ref (q 9)] (prW T q n d (x 0) (x 1) (x 2) (x 3) (x 4) (x 11 0) (x 12 0) (x 13 0) (x 14 0) (x 15 0) (x 16 0) (x 17 0) (x 18 0) (x 19 0) (x 20 0)) (fun r u => pst (bpsS n x) r u) (fun u => prX T q n d u) := by
  refine cx_inI (by decide) rfl (Nat.le_of_ble_eq_true rfl) ?_
  intro p e s m below meth cd ls A Q hx hb hml hT hown hret hP hK hD hN hS hA hl
  have hown : s.vm.findClass R_PR = some m.cls := hown
  have hl : lv_has ls 2 [(0, .ref (q 9))] := hl
  have hC := hX.1
  have hR0 := hX.2.1
  have hF := hX.2.2
  unfold okR at hR0
  have hcM := hC.1 (x 11 0 - 1)
  have has := asd_in (x 1 (x 13 0)) (x 0 (x 13 0)) (x 0 (x 11 0 - 1)) (hC.2 (x 13 0))
  refine lv_aload_n hx hb d_PR_branchByPosition_0 rfl (lv_at hl 0 rfl) ?_
  refine va_get (D := D) (ci := 2) (v := .ref (q 1)) (C := R_PR) (T := T_PR) (N := 12) hx hb hT lays_PR hown hK hP 0 rfl rfl 0 (by decide) (hT _ tw_78) (fun _ h9 => h9) rfl d_PR_branchByPosition_1 ?_
  refine lv_aload_n hx hb d_PR_branchByPosition_4 rfl (lv_at hl 0 rfl) ?_
  refine va_get (D := D) (ci := 2) (v := .int (iI (x 13 0))) (C := R_PR) (T := T_PR) (N := 12) hx hb hT lays_PR hown hK hP 0 rfl rfl 7 (by decide) (hT _ tw_87) (fun _ h9 => h9) rfl d_PR_branchByPosition_5 ?_
  refine cx_cI (ws2 := fun _ => prW T q n d (x 0) (x 1) (x 2) (x 3) (x 4) (x 11 0) (x 12 0) (x 13 0) (x 14 0) (x 15 0) (x 16 0) (x 17 0) (x 18 0) (x 19 0) (x 20 0)) (cx_rV (q0 := 9) (ci := 3) (rest := []) (As := [.int (iI (x 13 0))]) hx hb hml hown hT hK hN hP hD hl.1 tw_320 k_ST_has (c_ST_has l D T s.heap.size q n (x 0) (x 1) hn (x 13 0) (by omega)) ⟨by decide, by decide⟩ ⟨rfl, rfl⟩ [9, 10] (by decide) rfl rfl rfl rfl rfl (Nat.le_of_ble_eq_true rfl) ⟨Nat.zero_le _, Nat.zero_le _⟩ d_PR_branchByPosition_8) hP hD hS hA [9, 10] [0, 1, 2, 3, 4, 5, 6, 7, 8] [0, 1, 2, 3, 4, 5, 6, 7, 8, 9, 10] rfl (wr := [(q 9, .inr (2, [.ref (q 1), .ref (q 3), .ref (q 5), .ref (q 7), .ref (q 10), .int (iI (x 11 0)), .int (iI (x 12 0)), .int (iI (x 13 0)), .int (iI (x 14 0)), .int (iI (x 15 0)), .int (iI (x 16 0)), .int (iI (x 17 0))])), (q 3, .inr (1, [.int (iI (20)), .int (iI (80)), .ref (q 4), .int (iI (x 18 0))])), (q 4, .inl (T 0, 1680, .inl (fun jj : Nat => (iF (x 2)) (jj : Int)))), (q 5, .inr (1, [.int (iI (40)), .int (iI (132)), .ref (q 6), .int (iI (x 19 0))])), (q 6, .inl (T 0, 5412, .inl (fun jj : Nat => (iF (x 3)) (jj : Int)))), (q 7, .inr (1, [.int (iI (20)), .int (iI (80)), .ref (q 8), .int (iI (x 20 0))])), (q 8, .inl (T 0, 1680, .inl (fun jj : Nat => (iF (x 4)) (jj : Int)))), (q 10, .inr (0, [.ref (q 1), .ref (q 11)])), (q 11, .inl (T 0, n, .inl (fun jj : Nat => (iF d) (jj : Int))))]) rfl (by decide) (by decide) (fun _ => rfl) (by decide) (fun r u_ H locs hq8 hP hD hS => ?_)
  rcases hq8 with ⟨rfl, h8⟩ | ⟨rfl, h8⟩
  · refine cx_if_ne (tgt := 16) hx hb d_PR_branchByPosition_11 rfl (by omega) (fun _ => ?_) (fun h0 => absurd h0 (by decide))
    refine lv_aload_n hx hb d_PR_branchByPosition_16 rfl (lv_at hl 0 rfl) ?_
    refine lv_aload_n hx hb d_PR_branchByPosition_17 rfl (lv_at hl 0 rfl) ?_
    refine va_get (D := D) (ci := 2) (v := .int (iI (x 13 0))) (C := R_PR) (T := T_PR) (N := 12) hx hb hT lays_PR hown hK hP 0 rfl rfl 7 (by decide) (hT _ tw_87) (fun _ h9 => h9) rfl d_PR_branchByPosition_18 ?_
    refine lv_aload_n hx hb d_PR_branchByPosition_21 rfl (lv_at hl 0 rfl) ?_
    refine cx_cI (ws2 := fun _ => prW T q n d (x 0) (x 1) (x 2) (x 3) (x 4) (x 11 0) (x 12 0) (x 13 0) (x 14 0) (x 15 0) (x 16 0) (x 17 0) (x 18 0) (x 19 0) (x 20 0)) (cx_rV (q0 := 0) (ci := 2) (rest := [.int (iI (x 13 0)), .ref (q 9)]) (As := []) hx hb hml hown hT hK hN hP hD hl.1 tw_490 k_PR_modifier (c_PR_modifier l D T H.size q n hn d x hX (by omega)) ⟨by decide, by decide⟩ ⟨rfl, rfl⟩ [0, 1, 2, 3, 4, 5, 6, 7, 8, 9, 10] (by decide) rfl rfl rfl rfl rfl (Nat.le_of_ble_eq_true rfl) ⟨Nat.zero_le _, Nat.zero_le _⟩ d_PR_branchByPosition_22) hP hD hS hA [0, 1, 2, 3, 4, 5, 6, 7, 8, 9, 10] [] [0, 1, 2, 3, 4, 5, 6, 7, 8, 9, 10] rfl (wr := []) rfl (by decide) (by decide) (fun _ => rfl) (by decide) (fun r u_ H locs hq22 hP hD hS => ?_)
    subst hq22
    refine cx_cI (ws2 := fun _ => prW T q n d (x 0) (x 1) (x 2) (x 3) (x 4) (x 11 0) (x 12 0) (x 13 0) (x 14 0) (x 15 0) (x 16 0) (x 17 0) (x 18 0) (x 19 0) (x 20 0)) (cx_rV (q0 := 0) (ci := 2) (rest := []) (As := [.int (iI (x 13 0)), .int (iI ((x 0) (x 11 0 - 1)))]) hx hb hml hown hT hK hN hP hD hl.1 tw_506 k_PR_isAsAsked (c_PR_isAsAsked l D T H.size q n hn d x hX (x 13 0) (by omega) ((x 0) (x 11 0 - 1)) (by omega)) ⟨by decide, by decide⟩ ⟨rfl, rfl⟩ [0, 1, 2, 3, 4, 5, 6, 7, 8, 9, 10] (by decide) rfl rfl rfl rfl rfl (Nat.le_of_ble_eq_true rfl) ⟨Nat.zero_le _, Nat.zero_le _⟩ d_PR_branchByPosition_25) hP hD hS hA [0, 1, 2, 3, 4, 5, 6, 7, 8, 9, 10] [] [0, 1, 2, 3, 4, 5, 6, 7, 8, 9, 10] rfl (wr := []) rfl (by decide) (by decide) (fun _ => rfl) (by decide) (fun r u_ H locs hq25 hP hD hS => ?_)
    subst hq25
    refine lv_istore_n (lv' := [(1, .int (iI (asd ((x 1) (x 13 0)) ((x 0) (x 13 0)) ((x 0) (x 11 0 - 1))))), (0, .ref (q 9))]) hx hb d_PR_branchByPosition_28 rfl hl (by decide) rfl (fun ls hl => ?_)
    refine lv_aload_n hx hb d_PR_branchByPosition_29 rfl (lv_at hl 1 rfl) ?_
    refine lv_dup hx hb d_PR_branchByPosition_30 rfl ?_
    refine va_get (D := D) (ci := 2) (v := .int (iI (x 13 0))) (C := R_PR) (T := T_PR) (N := 12) hx hb hT lays_PR hown hK hP 0 rfl rfl 7 (by decide) (hT _ tw_87) (fun _ h9 => h9) rfl d_PR_branchByPosition_31 ?_
    refine cx_iconst hx hb d_PR_branchByPosition_34 ?_
    refine cx_isub hx hb d_PR_branchByPosition_35 ?_
    refine va_put (D := D) (ci := 2) (v := .int (iI ((x 13 0) - 1))) (ty := .int) (C := R_PR) (T := T_PR) (N := 12) hx hb hT lays_PR t_PR t_PR_ok n_PR hown hK hP hD hS 0 rfl rfl 7 (by decide) (hT _ tw_87) (fun _ h9 => h9) rfl (by decide +kernel) rfl rfl (Nat.le_of_ble_eq_true rfl) d_PR_branchByPosition_36 (fun H locs hP hD hS => ?_)
    have hP : va_P D vwCl (prW T q n d (x 0) (x 1) (x 2) (x 3) (x 4) (x 11 0) (x 12 0) ((x 13 0) - 1) (x 14 0) (x 15 0) (x 16 0) (x 17 0) (x 18 0) (x 19 0) (x 20 0)) H := hP
    have hD : va_D A (prW T q n d (x 0) (x 1) (x 2) (x 3) (x 4) (x 11 0) (x 12 0) ((x 13 0) - 1) (x 14 0) (x 15 0) (x 16 0) (x 17 0) (x 18 0) (x 19 0) (x 20 0)) := hD
    refine lv_iload_n hx hb d_PR_branchByPosition_39 rfl (lv_at hl 0 rfl) ?_
    refine cx_if_eq (tgt := 47) hx hb d_PR_branchByPosition_40 rfl (by omega) (fun h40 => ?_) (fun h40 => ?_)
    · refine cx_iconst hx hb d_PR_branchByPosition_47 ?_
      exact hret (up x 13 (cst ((x 13 0) - 1))) (pst_of (by unfold bpsS gof; rw [if_pos (by omega), if_pos h40]) (show okX (up x 13 (cst ((x 13 0) - 1))) from ⟨hX.1, (show okR (x 11 0) (x 12 0) ((x 13 0) - 1) (x 14 0) (x 15 0) (x 16 0) (x 17 0) (x 18 0) (x 19 0) (x 20 0) by have h8 := hX.2.1; unfold okR at h8 ⊢; omega), hX.2.2⟩)) hP hD hS d_PR_branchByPosition_48
    · refine lv_aload_n hx hb d_PR_branchByPosition_43 rfl (lv_at hl 1 rfl) ?_
      refine cx_cV (ws2 := fun _ => prW T q n d ((goS (up x 13 (cst ((x 13 0) - 1)))) 0) ((goS (up x 13 (cst ((x 13 0) - 1)))) 1) ((goS (up x 13 (cst ((x 13 0) - 1)))) 2) ((goS (up x 13 (cst ((x 13 0) - 1)))) 3) ((goS (up x 13 (cst ((x 13 0) - 1)))) 4) ((goS (up x 13 (cst ((x 13 0) - 1)))) 11 0) ((goS (up x 13 (cst ((x 13 0) - 1)))) 12 0) ((goS (up x 13 (cst ((x 13 0) - 1)))) 13 0) ((goS (up x 13 (cst ((x 13 0) - 1)))) 14 0) ((goS (up x 13 (cst ((x 13 0) - 1)))) 15 0) ((goS (up x 13 (cst ((x 13 0) - 1)))) 16 0) ((goS (up x 13 (cst ((x 13 0) - 1)))) 17 0) ((goS (up x 13 (cst ((x 13 0) - 1)))) 18 0) ((goS (up x 13 (cst ((x 13 0) - 1)))) 19 0) ((goS (up x 13 (cst ((x 13 0) - 1)))) 20 0)) (cx_rV (q0 := 0) (ci := 2) (rest := []) (As := []) hx hb hml hown hT hK hN hP hD hl.1 tw_475 k_PR_goThere (c_PR_goThere l D T H.size q n hn d (up x 13 (cst ((x 13 0) - 1))) (show okX (up x 13 (cst ((x 13 0) - 1))) from ⟨hX.1, (show okR (x 11 0) (x 12 0) ((x 13 0) - 1) (x 14 0) (x 15 0) (x 16 0) (x 17 0) (x 18 0) (x 19 0) (x 20 0) by have h8 := hX.2.1; unfold okR at h8 ⊢; omega), hX.2.2⟩)) ⟨by decide, by decide⟩ ⟨rfl, rfl⟩ [0, 1, 2, 3, 4, 5, 6, 7, 8, 9, 10] (by decide) rfl rfl rfl rfl rfl (Nat.le_of_ble_eq_true rfl) ⟨Nat.zero_le _, Nat.zero_le _⟩ d_PR_branchByPosition_44) hP hD hS hA [0, 1, 2, 3, 4, 5, 6, 7, 8, 9, 10] [] [0, 1, 2, 3, 4, 5, 6, 7, 8, 9, 10] rfl (wr := []) rfl (by decide) (by decide) (fun _ => rfl) (by decide) (fun u_ H locs hq44 hP hD hS => ?_)
      refine cx_iconst hx hb d_PR_branchByPosition_47 ?_
      exact hret ((goS (up x 13 (cst ((x 13 0) - 1))))) (pst_of (by unfold bpsS gof; rw [if_pos (by omega), if_neg h40]) (goS_ok (show okX (up x 13 (cst ((x 13 0) - 1))) from ⟨hX.1, (show okR (x 11 0) (x 12 0) ((x 13 0) - 1) (x 14 0) (x 15 0) (x 16 0) (x 17 0) (x 18 0) (x 19 0) (x 20 0) by have h8 := hX.2.1; unfold okR at h8 ⊢; omega), hX.2.2⟩))) hP hD hS d_PR_branchByPosition_48
  · refine cx_if_ne (tgt := 16) hx hb d_PR_branchByPosition_11 rfl (by omega) (fun h0 => absurd h0 (by decide)) (fun _ => ?_)
    refine cx_iconst hx hb d_PR_branchByPosition_14 ?_
    exact hret x (pst_of (by unfold bpsS; rw [if_neg (by omega)]) hX) hP hD hS d_PR_branchByPosition_15
