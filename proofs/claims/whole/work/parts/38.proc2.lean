/-! the Processor's operations, as functions of the state: the reason of a stop (0: none), the state behind it -/
def pst (f : Int × SX) (r : Int32) (u : SX) : Prop := r = iI f.1 ∧ u = f.2 ∧ okX u
theorem pst_of {f : Int × SX} {r : Int} {u : SX} (h : f = (r, u)) (ok : okX u) : pst f (iI r) u := ⟨by rw [h], by rw [h], ok⟩
def gof (g : Int) (x : SX) : SX := if g = 0 then x else goS x
theorem goS_ok {x : SX} (h : okX x) : okX (goS x) := ⟨h.1, (show okR (x 12 0) (x 11 0) (x 13 0) (x 14 0) (x 15 0) (x 16 0) (x 17 0) (x 18 0) (x 19 0) (x 20 0) by have h8 := h.2.1; unfold okR at h8 ⊢; omega), h.2.2⟩
def mrkS (n k : Int) (x : SX) : Int × SX := if (0 ≤ x 12 0 ∧ x 12 0 < n) ∧ (0 ≤ x 13 0 ∧ x 13 0 < n) then (0, up (up (up x 1 (fu (fu (x 1) (x 12 0) k) (x 13 0) k)) 12 (cst (x 12 0 - 1))) 13 (cst (x 13 0 - 1))) else (2, x)
def pbt (bits cb ca : Int) : Int := if bits = 15 then cb / 16 * 16 + ca % 16 else cb % 16 + ca / 16 * 16
theorem pbt_in (bits : Int) {cb ca : Int} (hb : 0 ≤ cb ∧ cb < 64) (ha : 0 ≤ ca ∧ ca < 64) : 0 ≤ pbt bits cb ca ∧ pbt bits cb ca < 64 := by unfold pbt; split <;> omega
theorem bt_nA : ∀ k : Fin 64, (iI (k.val : Int) &&& iI (-16) = iI ((k.val : Int) / 16 * 16)) ∧ (iI (k.val : Int) &&& iI (-49) = iI ((k.val : Int) % 16)) := by decide +kernel
theorem bt_n15 {c : Int} (h : 0 ≤ c ∧ c < 64) : iI c &&& iI (-16) = iI (c / 16 * 16) := by
  obtain ⟨k, rfl⟩ := fin64 h; exact (bt_nA k).1
theorem bt_n48 {c : Int} (h : 0 ≤ c ∧ c < 64) : iI c &&& iI (-49) = iI (c % 16) := by
  obtain ⟨k, rfl⟩ := fin64 h; exact (bt_nA k).2
theorem bt_zdA : ∀ d : Fin 16, ∀ z : Fin 4, iI (16 * (z.val : Int)) ||| iI (d.val : Int) = iI (16 * (z.val : Int) + (d.val : Int)) := by decide +kernel
theorem bt_or1 {cb ca : Int} (hb : 0 ≤ cb ∧ cb < 64) (ha : 0 ≤ ca ∧ ca < 64) : iI (cb / 16 * 16) ||| iI (ca % 16) = iI (pbt 15 cb ca) := by
  have h := bt_zdA ⟨(ca % 16).toNat, by omega⟩ ⟨(cb / 16).toNat, by omega⟩
  simp only [Int.toNat_of_nonneg (show 0 ≤ ca % 16 by omega), Int.toNat_of_nonneg (show 0 ≤ cb / 16 by omega)] at h
  rw [Int.mul_comm (cb / 16) 16, h]
  unfold pbt; rw [if_pos rfl]; congr 1; omega
theorem bt_or2 {cb ca : Int} (hb : 0 ≤ cb ∧ cb < 64) (ha : 0 ≤ ca ∧ ca < 64) : iI (cb % 16) ||| iI (ca / 16 * 16) = iI (pbt 48 cb ca) := by
  rw [bt_zd (by omega) (by omega)]
  unfold pbt; rw [if_neg (by decide)]; congr 1; omega
def bitS (n bits : Int) (x : SX) : Int × SX := if (0 ≤ x 12 0 ∧ x 12 0 < n) ∧ (0 ≤ x 13 0 ∧ x 13 0 < n) then (0, up (up (up x 0 (fu (x 0) (x 13 0) (pbt bits (x 0 (x 13 0)) (x 0 (x 12 0))))) 12 (cst (x 12 0 - 1))) 13 (cst (x 13 0 - 1))) else (2, x)
theorem spn_z (f : Int → Int) (b : Int) (F : Int → Int) : spn f b (b - b) F = f := by rw [Int.sub_self]; exact spn_0 f b F
theorem spn_zs {f : Int → Int} {b z : Int} (h : z ≤ b) : fu (spn f b (b - z) (cst 0)) z 0 = spn f b (b - (z + -1)) (cst 0) := by
  have h1 := spn_step (f := f) (F := cst 0) (b := b) (k := b - z) (v := 0) (by omega) rfl
  rw [show b - (b - z) = z by omega] at h1
  rw [h1]; congr 1; omega
def clrS (n g : Int) (x : SX) : Int × SX := if 0 ≤ x 13 0 ∧ x 13 0 < n then (0, gof g (up (up (up x 0 (spn (x 0) (x 13 0) (x 13 0 % 100 + 1) (cst 0))) 1 (spn (x 1) (x 13 0) (x 13 0 % 100 + 1) (cst 0))) 13 (cst (x 13 0 - x 13 0 % 100 - 1)))) else (2, x)
/-- characters moved one after the other -/
def mvN (ch : Int → Int) (a b : Int) : Nat → Int → Int
  | 0 => ch
  | k + 1 => fu (mvN ch a b k) (b - k) (mvN ch a b k (a - k))
theorem mvN_step {ch : Int → Int} {a b j : Int} (h : 0 ≤ j) : fu (mvN ch a b j.toNat) (b - j) (mvN ch a b j.toNat (a - j)) = mvN ch a b (j + 1).toNat := by
  rw [show (j + 1).toNat = j.toNat + 1 by omega, mvN, Int.toNat_of_nonneg h]
theorem flr_in (k : Int) (h : 0 ≤ k) : (k = 0 → flr k = -1) ∧ (¬ k = 0 → flr k = k) := ⟨fun q => by unfold flr; rw [if_pos q], fun q => by unfold flr; rw [if_neg q]⟩
theorem fld_all {n : Int} {mk : Int → Int} {u most : Int} : ∀ (f : Nat) (j : Int), 1 ≤ j → fld n mk u most f j = 0 ∨ (j ≤ fld n mk u most f j ∧ (0 ≤ u - fld n mk u most f j + 1 ∧ u - j + 1 < n) ∧ (fld n mk u most f j = most ∨ mk (u - fld n mk u most f j + 1) = 1) ∧ ∀ i, j ≤ i → i < fld n mk u most f j → ¬ i = most ∧ ¬ mk (u - i + 1) = 1)
  | 0, j, _ => Or.inl rfl
  | f + 1, j, hj => by
    rw [fld]
    by_cases h1 : 0 ≤ u - j + 1 ∧ u - j + 1 < n
    · rw [if_pos h1]
      by_cases h2 : j = most ∨ mk (u - j + 1) = 1
      · rw [if_pos h2]
        exact Or.inr ⟨by omega, ⟨by omega, by omega⟩, h2, fun i a b => absurd a (by omega)⟩
      · rw [if_neg h2]
        rcases fld_all f (j + 1) (by omega) with h | ⟨a, b, c, d⟩
        · exact Or.inl h
        · refine Or.inr ⟨by omega, ⟨b.1, by omega⟩, c, fun i e1 e2 => ?_⟩
          by_cases e3 : i = j
          · subst e3; exact ⟨fun z => h2 (Or.inl z), fun z => h2 (Or.inr z)⟩
          · exact d i (by omega) e2
    · rw [if_neg h1]
      exact Or.inl rfl
theorem fld_in {n : Int} {mk : Int → Int} {u most k : Int} (h : k = fld n mk u most 2001 1) : 0 ≤ k ∧ (¬ k = 0 → 1 ≤ k ∧ k ≤ u + 1 ∧ (0 ≤ u ∧ u < n)) := by
  rcases fld_all (n := n) (mk := mk) (u := u) (most := most) 2001 1 (by omega) with h1 | ⟨a, b, -, -⟩
  · rw [← h] at h1; omega
  · rw [← h] at a b; omega
theorem cmn_all {n : Int} {mk : Int → Int} {a b : Int} : ∀ (f : Nat) (j : Int), 1 ≤ j → cmn n mk a b f j = 0 ∨ (j ≤ cmn n mk a b f j ∧ (0 ≤ a - cmn n mk a b f j + 1 ∧ a - j + 1 < n) ∧ (0 ≤ b - cmn n mk a b f j + 1 ∧ b - j + 1 < n) ∧ (mk (a - cmn n mk a b f j + 1) = 1 ∨ mk (b - cmn n mk a b f j + 1) = 1))
  | 0, j, _ => Or.inl rfl
  | f + 1, j, hj => by
    rw [cmn]
    by_cases h1 : (0 ≤ a - j + 1 ∧ a - j + 1 < n) ∧ (0 ≤ b - j + 1 ∧ b - j + 1 < n)
    · rw [if_pos h1]
      by_cases h2 : mk (a - j + 1) = 1 ∨ mk (b - j + 1) = 1
      · rw [if_pos h2]
        exact Or.inr ⟨by omega, ⟨by omega, by omega⟩, ⟨by omega, by omega⟩, h2⟩
      · rw [if_neg h2]
        rcases cmn_all f (j + 1) (by omega) with h | ⟨e1, e2, e3, e4⟩
        · exact Or.inl h
        · exact Or.inr ⟨by omega, ⟨e2.1, by omega⟩, ⟨e3.1, by omega⟩, e4⟩
    · rw [if_neg h1]
      exact Or.inl rfl
theorem cmn_in {n : Int} {mk : Int → Int} {a b k : Int} (h : k = cmn n mk a b 2001 1) : 0 ≤ k ∧ (¬ k = 0 → 1 ≤ k ∧ (k ≤ a + 1 ∧ (0 ≤ a ∧ a < n)) ∧ (k ≤ b + 1 ∧ (0 ≤ b ∧ b < n)) ∧ (mk (a - k + 1) = 1 ∨ mk (b - k + 1) = 1)) := by
  rcases cmn_all (n := n) (mk := mk) (a := a) (b := b) 2001 1 (by omega) with h1 | ⟨e1, e2, e3, e4⟩
  · rw [← h] at h1; omega
  · rw [← h] at e1 e2 e3 e4; omega
def movK (x : SX) (k : Int) : Int × SX := if k = 0 then (2, x) else (0, up (up (up x 0 (mvN (x 0) (x 12 0) (x 13 0) k.toNat)) 12 (cst (x 12 0 - k))) 13 (cst (x 13 0 - k)))
def movS (n : Int) (x : SX) : Int × SX := movK x (cmn n (x 1) (x 12 0) (x 13 0) 2001 1)
theorem okC_cpy {ch mk : Int → Int} {sp dp k : Int} (h : okC ch mk) : okC (cpy ch sp dp k) (cpy mk sp dp k) := ⟨fun j => by
  unfold cpy
  split
  · exact h.1 _
  · exact h.1 _, fun j => by
  unfold cpy
  split
  · exact h.2 _
  · exact h.2 _⟩
def lodK (n : Int) (x : SX) (k : Int) : Int × SX := if k = 0 ∨ ¬ ((0 ≤ x 13 0 ∧ x 13 0 < n) ∧ k - 1 ≤ x 13 0) then (2, x) else (0, up (up (up (up x 0 (cpy (x 0) (x 12 0 - k + 1) (x 13 0 - k + 1) k)) 1 (cpy (x 1) (x 12 0 - k + 1) (x 13 0 - k + 1) k)) 12 (cst (x 12 0 - k))) 13 (cst (x 13 0 - k)))
def lodS (n : Int) (x : SX) : Int × SX := lodK n x (fld n (x 1) (x 12 0) (n + 1) 2001 1)

set_option maxHeartbeats 4000000 in
set_option maxRecDepth 100000 in
theorem c_PR_halt (l : Launch) (D : va_G) (T : Nat → ClassId) (sz : Nat) (q : Nat → Nat) (n : Nat) (hn : 400 ≤ n ∧ n ≤ 2000) (d : Int → Int) (x : SX) (hX : okX x) (g : Int) (hg : g = 0 ∨ g = 1) : MI l y_PR_halt (wY y_PR_halt b_PR_halt 2 (some .int)) (rmK 1) D vwCl (tyL T) nwL sz [.ref (q 9), .int (iI (g))] (prW T q n d (x 0) (x 1) (x 2) (x 3) (x 4) (x 11 0) (x 12 0) (x 13 0) (x 14 0) (x 15 0) (x 16 0) (x 17 0) (x 18 0) (x 19 0) (x 20 0)) (fun r u => pst ((6, gof g x)) r u) (fun u => prX T q n d u) := by
  refine cx_inI (by decide) rfl (Nat.le_of_ble_eq_true rfl) ?_
  intro p e s m below meth cd ls A Q hx hb hml hT hown hret hP hK hD hN hS hA hl
  have hown : s.vm.findClass R_PR = some m.cls := hown
  have hl : lv_has ls 2 [(0, .ref (q 9)), (1, .int (iI (g)))] := hl
  have hC := hX.1
  have hR0 := hX.2.1
  have hF := hX.2.2
  unfold okR at hR0
  refine lv_iload_n hx hb d_PR_halt_0 rfl (lv_at hl 1 rfl) ?_
  refine cx_if_eq (tgt := 8) hx hb d_PR_halt_1 rfl (by omega) (fun h1 => ?_) (fun h1 => ?_)
  · refine cx_bipush hx hb d_PR_halt_8 rfl ?_
    exact hret x (pst_of (by unfold gof; rw [if_pos h1]) hX) hP hD hS d_PR_halt_10
  · refine lv_aload_n hx hb d_PR_halt_4 rfl (lv_at hl 0 rfl) ?_
    refine cx_cV (ws2 := fun _ => prW T q n d ((goS x) 0) ((goS x) 1) ((goS x) 2) ((goS x) 3) ((goS x) 4) ((goS x) 11 0) ((goS x) 12 0) ((goS x) 13 0) ((goS x) 14 0) ((goS x) 15 0) ((goS x) 16 0) ((goS x) 17 0) ((goS x) 18 0) ((goS x) 19 0) ((goS x) 20 0)) (cx_rV (q0 := 0) (ci := 2) (rest := []) (As := []) hx hb hml hown hT hK hN hP hD hl.1 tw_475 k_PR_goThere (c_PR_goThere l D T s.heap.size q n hn d x hX) ⟨by decide, by decide⟩ ⟨rfl, rfl⟩ [0, 1, 2, 3, 4, 5, 6, 7, 8, 9, 10] (by decide) rfl rfl rfl rfl rfl (Nat.le_of_ble_eq_true rfl) ⟨Nat.zero_le _, Nat.zero_le _⟩ d_PR_halt_5) hP hD hS hA [0, 1, 2, 3, 4, 5, 6, 7, 8, 9, 10] [] [0, 1, 2, 3, 4, 5, 6, 7, 8, 9, 10] rfl (wr := []) rfl (by decide) (by decide) (fun _ => rfl) (by decide) (fun u_ H locs hq5 hP hD hS => ?_)
    refine cx_bipush hx hb d_PR_halt_8 rfl ?_
    exact hret ((goS x)) (pst_of (by unfold gof; rw [if_neg h1]) (goS_ok hX)) hP hD hS d_PR_halt_10

set_option maxHeartbeats 4000000 in
set_option maxRecDepth 100000 in
theorem c_PR_endTransfer (l : Launch) (D : va_G) (T : Nat → ClassId) (sz : Nat) (q : Nat → Nat) (n : Nat) (hn : 400 ≤ n ∧ n ≤ 2000) (d : Int → Int) (x : SX) (hX : okX x) (z : Int) (hz : -1 ≤ z ∧ z ≤ 16000) (g : Int) (hg : g = 0 ∨ g = 1) : MV l y_PR_endTransfer (wY y_PR_endTransfer b_PR_endTransfer 3 none) (rmK 1) D vwCl (tyL T) nwL sz [.ref (q 9), .int (iI (z)), .int (iI (g))] (prW T q n d (x 0) (x 1) (x 2) (x 3) (x 4) (x 11 0) (x 12 0) (x 13 0) (x 14 0) (x 15 0) (x 16 0) (x 17 0) (x 18 0) (x 19 0) (x 20 0)) (fun (_ : Unit) => True) (fun _ => prX T q n d (gof g (up x 13 (cst z)))) := by
  refine cx_inV (by decide) rfl (Nat.le_of_ble_eq_true rfl) ?_
  intro p e s m below meth cd ls A Q hx hb hml hT hown hret hP hK hD hN hS hA hl
  have hown : s.vm.findClass R_PR = some m.cls := hown
  have hl : lv_has ls 3 [(0, .ref (q 9)), (1, .int (iI (z))), (2, .int (iI (g)))] := hl
  have hC := hX.1
  have hR0 := hX.2.1
  have hF := hX.2.2
  unfold okR at hR0
  refine lv_aload_n hx hb d_PR_endTransfer_0 rfl (lv_at hl 0 rfl) ?_
  refine lv_iload_n hx hb d_PR_endTransfer_1 rfl (lv_at hl 1 rfl) ?_
  refine va_put (D := D) (ci := 2) (v := .int (iI (z))) (ty := .int) (C := R_PR) (T := T_PR) (N := 12) hx hb hT lays_PR t_PR t_PR_ok n_PR hown hK hP hD hS 0 rfl rfl 7 (by decide) (hT _ tw_87) (fun _ h9 => h9) rfl (by decide +kernel) rfl rfl (Nat.le_of_ble_eq_true rfl) d_PR_endTransfer_2 (fun H locs hP hD hS => ?_)
  have hP : va_P D vwCl (prW T q n d (x 0) (x 1) (x 2) (x 3) (x 4) (x 11 0) (x 12 0) z (x 14 0) (x 15 0) (x 16 0) (x 17 0) (x 18 0) (x 19 0) (x 20 0)) H := hP
  have hD : va_D A (prW T q n d (x 0) (x 1) (x 2) (x 3) (x 4) (x 11 0) (x 12 0) z (x 14 0) (x 15 0) (x 16 0) (x 17 0) (x 18 0) (x 19 0) (x 20 0)) := hD
  refine lv_iload_n hx hb d_PR_endTransfer_5 rfl (lv_at hl 2 rfl) ?_
  refine cx_if_eq (tgt := 13) hx hb d_PR_endTransfer_6 rfl (by omega) (fun h6 => ?_) (fun h6 => ?_)
  · have e9 : gof g (up x 13 (cst z)) = up x 13 (cst z) := by unfold gof; rw [if_pos h6]
    rw [e9] at hret
    exact hret () trivial hP hD hS d_PR_endTransfer_13
  · refine lv_aload_n hx hb d_PR_endTransfer_9 rfl (lv_at hl 0 rfl) ?_
    refine cx_cV (ws2 := fun _ => prW T q n d ((goS (up x 13 (cst z))) 0) ((goS (up x 13 (cst z))) 1) ((goS (up x 13 (cst z))) 2) ((goS (up x 13 (cst z))) 3) ((goS (up x 13 (cst z))) 4) ((goS (up x 13 (cst z))) 11 0) ((goS (up x 13 (cst z))) 12 0) ((goS (up x 13 (cst z))) 13 0) ((goS (up x 13 (cst z))) 14 0) ((goS (up x 13 (cst z))) 15 0) ((goS (up x 13 (cst z))) 16 0) ((goS (up x 13 (cst z))) 17 0) ((goS (up x 13 (cst z))) 18 0) ((goS (up x 13 (cst z))) 19 0) ((goS (up x 13 (cst z))) 20 0)) (cx_rV (q0 := 0) (ci := 2) (rest := []) (As := []) hx hb hml hown hT hK hN hP hD hl.1 tw_475 k_PR_goThere (c_PR_goThere l D T H.size q n hn d (up x 13 (cst z)) (show okX (up x 13 (cst z)) from ⟨hX.1, (show okR (x 11 0) (x 12 0) z (x 14 0) (x 15 0) (x 16 0) (x 17 0) (x 18 0) (x 19 0) (x 20 0) by have h8 := hX.2.1; unfold okR at h8 ⊢; omega), hX.2.2⟩)) ⟨by decide, by decide⟩ ⟨rfl, rfl⟩ [0, 1, 2, 3, 4, 5, 6, 7, 8, 9, 10] (by decide) rfl rfl rfl rfl rfl (Nat.le_of_ble_eq_true rfl) ⟨Nat.zero_le _, Nat.zero_le _⟩ d_PR_endTransfer_10) hP hD hS hA [0, 1, 2, 3, 4, 5, 6, 7, 8, 9, 10] [] [0, 1, 2, 3, 4, 5, 6, 7, 8, 9, 10] rfl (wr := []) rfl (by decide) (by decide) (fun _ => rfl) (by decide) (fun u_ H locs hq10 hP hD hS => ?_)
    have e9 : gof g (up x 13 (cst z)) = (goS (up x 13 (cst z))) := by unfold gof; rw [if_neg h6]
    rw [e9] at hret
    exact hret () trivial hP hD hS d_PR_endTransfer_13

set_option maxHeartbeats 4000000 in
set_option maxRecDepth 100000 in
theorem c_PR_changeMarks (l : Launch) (D : va_G) (T : Nat → ClassId) (sz : Nat) (q : Nat → Nat) (n : Nat) (hn : 400 ≤ n ∧ n ≤ 2000) (d : Int → Int) (x : SX) (hX : okX x) (k : Int) (hk : k = 0 ∨ k = 1) : MI l y_PR_changeMarks (wY y_PR_changeMarks b_PR_changeMarks 2 (some .int)) (rmK 2) D vwCl (tyL T) nwL sz [.ref (q 9), .int (iI (k))] (prW T q n d (x 0) (x 1) (x 2) (x 3) (x 4) (x 11 0) (x 12 0) (x 13 0) (x 14 0) (x 15 0) (x 16 0) (x 17 0) (x 18 0) (x 19 0) (x 20 0)) (fun r u => pst (mrkS n k x) r u) (fun u => prX T q n d u) := by
  refine cx_inI (by decide) rfl (Nat.le_of_ble_eq_true rfl) ?_
  intro p e s m below meth cd ls A Q hx hb hml hT hown hret hP hK hD hN hS hA hl
  have hown : s.vm.findClass R_PR = some m.cls := hown
  have hl : lv_has ls 2 [(0, .ref (q 9)), (1, .int (iI (k)))] := hl
  have hC := hX.1
  have hR0 := hX.2.1
  have hF := hX.2.2
  unfold okR at hR0
  refine lv_aload_n hx hb d_PR_changeMarks_0 rfl (lv_at hl 0 rfl) ?_
  refine va_get (D := D) (ci := 2) (v := .ref (q 1)) (C := R_PR) (T := T_PR) (N := 12) hx hb hT lays_PR hown hK hP 0 rfl rfl 0 (by decide) (hT _ tw_78) (fun _ h9 => h9) rfl d_PR_changeMarks_1 ?_
  refine lv_aload_n hx hb d_PR_changeMarks_4 rfl (lv_at hl 0 rfl) ?_
  refine va_get (D := D) (ci := 2) (v := .int (iI (x 12 0))) (C := R_PR) (T := T_PR) (N := 12) hx hb hT lays_PR hown hK hP 0 rfl rfl 6 (by decide) (hT _ tw_85) (fun _ h9 => h9) rfl d_PR_changeMarks_5 ?_
  refine cx_cI (ws2 := fun _ => prW T q n d (x 0) (x 1) (x 2) (x 3) (x 4) (x 11 0) (x 12 0) (x 13 0) (x 14 0) (x 15 0) (x 16 0) (x 17 0) (x 18 0) (x 19 0) (x 20 0)) (cx_rV (q0 := 9) (ci := 3) (rest := []) (As := [.int (iI (x 12 0))]) hx hb hml hown hT hK hN hP hD hl.1 tw_320 k_ST_has (c_ST_has l D T s.heap.size q n (x 0) (x 1) hn (x 12 0) (by omega)) ⟨by decide, by decide⟩ ⟨rfl, rfl⟩ [9, 10] (by decide) rfl rfl rfl rfl rfl (Nat.le_of_ble_eq_true rfl) ⟨Nat.zero_le _, Nat.zero_le _⟩ d_PR_changeMarks_8) hP hD hS hA [9, 10] [0, 1, 2, 3, 4, 5, 6, 7, 8] [0, 1, 2, 3, 4, 5, 6, 7, 8, 9, 10] rfl (wr := [(q 9, .inr (2, [.ref (q 1), .ref (q 3), .ref (q 5), .ref (q 7), .ref (q 10), .int (iI (x 11 0)), .int (iI (x 12 0)), .int (iI (x 13 0)), .int (iI (x 14 0)), .int (iI (x 15 0)), .int (iI (x 16 0)), .int (iI (x 17 0))])), (q 3, .inr (1, [.int (iI (20)), .int (iI (80)), .ref (q 4), .int (iI (x 18 0))])), (q 4, .inl (T 0, 1680, .inl (fun jj : Nat => (iF (x 2)) (jj : Int)))), (q 5, .inr (1, [.int (iI (40)), .int (iI (132)), .ref (q 6), .int (iI (x 19 0))])), (q 6, .inl (T 0, 5412, .inl (fun jj : Nat => (iF (x 3)) (jj : Int)))), (q 7, .inr (1, [.int (iI (20)), .int (iI (80)), .ref (q 8), .int (iI (x 20 0))])), (q 8, .inl (T 0, 1680, .inl (fun jj : Nat => (iF (x 4)) (jj : Int)))), (q 10, .inr (0, [.ref (q 1), .ref (q 11)])), (q 11, .inl (T 0, n, .inl (fun jj : Nat => (iF d) (jj : Int))))]) rfl (by decide) (by decide) (fun _ => rfl) (by decide) (fun r u_ H locs hq8 hP hD hS => ?_)
  rcases hq8 with ⟨rfl, h8⟩ | ⟨rfl, h8⟩
  · refine cx_if_eq (tgt := 28) hx hb d_PR_changeMarks_11 rfl (by omega) (fun h0 => absurd h0 (by decide)) (fun _ => ?_)
    refine lv_aload_n hx hb d_PR_changeMarks_14 rfl (lv_at hl 0 rfl) ?_
    refine va_get (D := D) (ci := 2) (v := .ref (q 1)) (C := R_PR) (T := T_PR) (N := 12) hx hb hT lays_PR hown hK hP 0 rfl rfl 0 (by decide) (hT _ tw_78) (fun _ h9 => h9) rfl d_PR_changeMarks_15 ?_
    refine lv_aload_n hx hb d_PR_changeMarks_18 rfl (lv_at hl 0 rfl) ?_
    refine va_get (D := D) (ci := 2) (v := .int (iI (x 13 0))) (C := R_PR) (T := T_PR) (N := 12) hx hb hT lays_PR hown hK hP 0 rfl rfl 7 (by decide) (hT _ tw_87) (fun _ h9 => h9) rfl d_PR_changeMarks_19 ?_
    refine cx_cI (ws2 := fun _ => prW T q n d (x 0) (x 1) (x 2) (x 3) (x 4) (x 11 0) (x 12 0) (x 13 0) (x 14 0) (x 15 0) (x 16 0) (x 17 0) (x 18 0) (x 19 0) (x 20 0)) (cx_rV (q0 := 9) (ci := 3) (rest := []) (As := [.int (iI (x 13 0))]) hx hb hml hown hT hK hN hP hD hl.1 tw_320 k_ST_has (c_ST_has l D T H.size q n (x 0) (x 1) hn (x 13 0) (by omega)) ⟨by decide, by decide⟩ ⟨rfl, rfl⟩ [9, 10] (by decide) rfl rfl rfl rfl rfl (Nat.le_of_ble_eq_true rfl) ⟨Nat.zero_le _, Nat.zero_le _⟩ d_PR_changeMarks_22) hP hD hS hA [9, 10] [0, 1, 2, 3, 4, 5, 6, 7, 8] [0, 1, 2, 3, 4, 5, 6, 7, 8, 9, 10] rfl (wr := [(q 9, .inr (2, [.ref (q 1), .ref (q 3), .ref (q 5), .ref (q 7), .ref (q 10), .int (iI (x 11 0)), .int (iI (x 12 0)), .int (iI (x 13 0)), .int (iI (x 14 0)), .int (iI (x 15 0)), .int (iI (x 16 0)), .int (iI (x 17 0))])), (q 3, .inr (1, [.int (iI (20)), .int (iI (80)), .ref (q 4), .int (iI (x 18 0))])), (q 4, .inl (T 0, 1680, .inl (fun jj : Nat => (iF (x 2)) (jj : Int)))), (q 5, .inr (1, [.int (iI (40)), .int (iI (132)), .ref (q 6), .int (iI (x 19 0))])), (q 6, .inl (T 0, 5412, .inl (fun jj : Nat => (iF (x 3)) (jj : Int)))), (q 7, .inr (1, [.int (iI (20)), .int (iI (80)), .ref (q 8), .int (iI (x 20 0))])), (q 8, .inl (T 0, 1680, .inl (fun jj : Nat => (iF (x 4)) (jj : Int)))), (q 10, .inr (0, [.ref (q 1), .ref (q 11)])), (q 11, .inl (T 0, n, .inl (fun jj : Nat => (iF d) (jj : Int))))]) rfl (by decide) (by decide) (fun _ => rfl) (by decide) (fun r u_ H locs hq22 hP hD hS => ?_)
    rcases hq22 with ⟨rfl, h22⟩ | ⟨rfl, h22⟩
    · refine cx_if_ne (tgt := 30) hx hb d_PR_changeMarks_25 rfl (by omega) (fun _ => ?_) (fun h0 => absurd h0 (by decide))
      refine lv_aload_n hx hb d_PR_changeMarks_30 rfl (lv_at hl 0 rfl) ?_
      refine va_get (D := D) (ci := 2) (v := .ref (q 1)) (C := R_PR) (T := T_PR) (N := 12) hx hb hT lays_PR hown hK hP 0 rfl rfl 0 (by decide) (hT _ tw_78) (fun _ h9 => h9) rfl d_PR_changeMarks_31 ?_
      refine lv_aload_n hx hb d_PR_changeMarks_34 rfl (lv_at hl 0 rfl) ?_
      refine va_get (D := D) (ci := 2) (v := .int (iI (x 12 0))) (C := R_PR) (T := T_PR) (N := 12) hx hb hT lays_PR hown hK hP 0 rfl rfl 6 (by decide) (hT _ tw_85) (fun _ h9 => h9) rfl d_PR_changeMarks_35 ?_
      refine lv_iload_n hx hb d_PR_changeMarks_38 rfl (lv_at hl 1 rfl) ?_
      refine cx_cV (ws2 := fun _ => prW T q n d (x 0) (fu (x 1) (x 12 0) (k)) (x 2) (x 3) (x 4) (x 11 0) (x 12 0) (x 13 0) (x 14 0) (x 15 0) (x 16 0) (x 17 0) (x 18 0) (x 19 0) (x 20 0)) (cx_rV (q0 := 9) (ci := 3) (rest := []) (As := [.int (iI (x 12 0)), .int (iI (k))]) hx hb hml hown hT hK hN hP hD hl.1 tw_465 k_ST_mark (c_ST_mark l D T H.size q n (x 0) (x 1) hn hC (x 12 0) (by omega) k (by omega)) ⟨by decide, by decide⟩ ⟨rfl, rfl⟩ [9, 10] (by decide) rfl rfl rfl rfl rfl (Nat.le_of_ble_eq_true rfl) ⟨Nat.zero_le _, Nat.zero_le _⟩ d_PR_changeMarks_39) hP hD hS hA [9, 10] [0, 1, 2, 3, 4, 5, 6, 7, 8] [0, 1, 2, 3, 4, 5, 6, 7, 8, 9, 10] rfl (wr := [(q 9, .inr (2, [.ref (q 1), .ref (q 3), .ref (q 5), .ref (q 7), .ref (q 10), .int (iI (x 11 0)), .int (iI (x 12 0)), .int (iI (x 13 0)), .int (iI (x 14 0)), .int (iI (x 15 0)), .int (iI (x 16 0)), .int (iI (x 17 0))])), (q 3, .inr (1, [.int (iI (20)), .int (iI (80)), .ref (q 4), .int (iI (x 18 0))])), (q 4, .inl (T 0, 1680, .inl (fun jj : Nat => (iF (x 2)) (jj : Int)))), (q 5, .inr (1, [.int (iI (40)), .int (iI (132)), .ref (q 6), .int (iI (x 19 0))])), (q 6, .inl (T 0, 5412, .inl (fun jj : Nat => (iF (x 3)) (jj : Int)))), (q 7, .inr (1, [.int (iI (20)), .int (iI (80)), .ref (q 8), .int (iI (x 20 0))])), (q 8, .inl (T 0, 1680, .inl (fun jj : Nat => (iF (x 4)) (jj : Int)))), (q 10, .inr (0, [.ref (q 1), .ref (q 11)])), (q 11, .inl (T 0, n, .inl (fun jj : Nat => (iF d) (jj : Int))))]) rfl (by decide) (by decide) (fun _ => rfl) (by decide) (fun u_ H locs hq39 hP hD hS => ?_)
      have hC : okC (x 0) (fu (x 1) (x 12 0) (k)) := okC_mk hC (by omega)
      refine lv_aload_n hx hb d_PR_changeMarks_42 rfl (lv_at hl 0 rfl) ?_
      refine va_get (D := D) (ci := 2) (v := .ref (q 1)) (C := R_PR) (T := T_PR) (N := 12) hx hb hT lays_PR hown hK hP 0 rfl rfl 0 (by decide) (hT _ tw_78) (fun _ h9 => h9) rfl d_PR_changeMarks_43 ?_
      refine lv_aload_n hx hb d_PR_changeMarks_46 rfl (lv_at hl 0 rfl) ?_
      refine va_get (D := D) (ci := 2) (v := .int (iI (x 13 0))) (C := R_PR) (T := T_PR) (N := 12) hx hb hT lays_PR hown hK hP 0 rfl rfl 7 (by decide) (hT _ tw_87) (fun _ h9 => h9) rfl d_PR_changeMarks_47 ?_
      refine lv_iload_n hx hb d_PR_changeMarks_50 rfl (lv_at hl 1 rfl) ?_
      refine cx_cV (ws2 := fun _ => prW T q n d (x 0) (fu (fu (x 1) (x 12 0) (k)) (x 13 0) (k)) (x 2) (x 3) (x 4) (x 11 0) (x 12 0) (x 13 0) (x 14 0) (x 15 0) (x 16 0) (x 17 0) (x 18 0) (x 19 0) (x 20 0)) (cx_rV (q0 := 9) (ci := 3) (rest := []) (As := [.int (iI (x 13 0)), .int (iI (k))]) hx hb hml hown hT hK hN hP hD hl.1 tw_465 k_ST_mark (c_ST_mark l D T H.size q n (x 0) (fu (x 1) (x 12 0) (k)) hn hC (x 13 0) (by omega) k (by omega)) ⟨by decide, by decide⟩ ⟨rfl, rfl⟩ [9, 10] (by decide) rfl rfl rfl rfl rfl (Nat.le_of_ble_eq_true rfl) ⟨Nat.zero_le _, Nat.zero_le _⟩ d_PR_changeMarks_51) hP hD hS hA [9, 10] [0, 1, 2, 3, 4, 5, 6, 7, 8] [0, 1, 2, 3, 4, 5, 6, 7, 8, 9, 10] rfl (wr := [(q 9, .inr (2, [.ref (q 1), .ref (q 3), .ref (q 5), .ref (q 7), .ref (q 10), .int (iI (x 11 0)), .int (iI (x 12 0)), .int (iI (x 13 0)), .int (iI (x 14 0)), .int (iI (x 15 0)), .int (iI (x 16 0)), .int (iI (x 17 0))])), (q 3, .inr (1, [.int (iI (20)), .int (iI (80)), .ref (q 4), .int (iI (x 18 0))])), (q 4, .inl (T 0, 1680, .inl (fun jj : Nat => (iF (x 2)) (jj : Int)))), (q 5, .inr (1, [.int (iI (40)), .int (iI (132)), .ref (q 6), .int (iI (x 19 0))])), (q 6, .inl (T 0, 5412, .inl (fun jj : Nat => (iF (x 3)) (jj : Int)))), (q 7, .inr (1, [.int (iI (20)), .int (iI (80)), .ref (q 8), .int (iI (x 20 0))])), (q 8, .inl (T 0, 1680, .inl (fun jj : Nat => (iF (x 4)) (jj : Int)))), (q 10, .inr (0, [.ref (q 1), .ref (q 11)])), (q 11, .inl (T 0, n, .inl (fun jj : Nat => (iF d) (jj : Int))))]) rfl (by decide) (by decide) (fun _ => rfl) (by decide) (fun u_ H locs hq51 hP hD hS => ?_)
      have hC : okC (x 0) (fu (fu (x 1) (x 12 0) (k)) (x 13 0) (k)) := okC_mk hC (by omega)
      refine lv_aload_n hx hb d_PR_changeMarks_54 rfl (lv_at hl 0 rfl) ?_
      refine lv_dup hx hb d_PR_changeMarks_55 rfl ?_
      refine va_get (D := D) (ci := 2) (v := .int (iI (x 12 0))) (C := R_PR) (T := T_PR) (N := 12) hx hb hT lays_PR hown hK hP 0 rfl rfl 6 (by decide) (hT _ tw_85) (fun _ h9 => h9) rfl d_PR_changeMarks_56 ?_
      refine cx_iconst hx hb d_PR_changeMarks_59 ?_
      refine cx_isub hx hb d_PR_changeMarks_60 ?_
      refine va_put (D := D) (ci := 2) (v := .int (iI ((x 12 0) - 1))) (ty := .int) (C := R_PR) (T := T_PR) (N := 12) hx hb hT lays_PR t_PR t_PR_ok n_PR hown hK hP hD hS 0 rfl rfl 6 (by decide) (hT _ tw_85) (fun _ h9 => h9) rfl (by decide +kernel) rfl rfl (Nat.le_of_ble_eq_true rfl) d_PR_changeMarks_61 (fun H locs hP hD hS => ?_)
      have hP : va_P D vwCl (prW T q n d (x 0) (fu (fu (x 1) (x 12 0) (k)) (x 13 0) (k)) (x 2) (x 3) (x 4) (x 11 0) ((x 12 0) - 1) (x 13 0) (x 14 0) (x 15 0) (x 16 0) (x 17 0) (x 18 0) (x 19 0) (x 20 0)) H := hP
      have hD : va_D A (prW T q n d (x 0) (fu (fu (x 1) (x 12 0) (k)) (x 13 0) (k)) (x 2) (x 3) (x 4) (x 11 0) ((x 12 0) - 1) (x 13 0) (x 14 0) (x 15 0) (x 16 0) (x 17 0) (x 18 0) (x 19 0) (x 20 0)) := hD
      refine lv_aload_n hx hb d_PR_changeMarks_64 rfl (lv_at hl 0 rfl) ?_
      refine lv_dup hx hb d_PR_changeMarks_65 rfl ?_
      refine va_get (D := D) (ci := 2) (v := .int (iI (x 13 0))) (C := R_PR) (T := T_PR) (N := 12) hx hb hT lays_PR hown hK hP 0 rfl rfl 7 (by decide) (hT _ tw_87) (fun _ h9 => h9) rfl d_PR_changeMarks_66 ?_
      refine cx_iconst hx hb d_PR_changeMarks_69 ?_
      refine cx_isub hx hb d_PR_changeMarks_70 ?_
      refine va_put (D := D) (ci := 2) (v := .int (iI ((x 13 0) - 1))) (ty := .int) (C := R_PR) (T := T_PR) (N := 12) hx hb hT lays_PR t_PR t_PR_ok n_PR hown hK hP hD hS 0 rfl rfl 7 (by decide) (hT _ tw_87) (fun _ h9 => h9) rfl (by decide +kernel) rfl rfl (Nat.le_of_ble_eq_true rfl) d_PR_changeMarks_71 (fun H locs hP hD hS => ?_)
      have hP : va_P D vwCl (prW T q n d (x 0) (fu (fu (x 1) (x 12 0) (k)) (x 13 0) (k)) (x 2) (x 3) (x 4) (x 11 0) ((x 12 0) - 1) ((x 13 0) - 1) (x 14 0) (x 15 0) (x 16 0) (x 17 0) (x 18 0) (x 19 0) (x 20 0)) H := hP
      have hD : va_D A (prW T q n d (x 0) (fu (fu (x 1) (x 12 0) (k)) (x 13 0) (k)) (x 2) (x 3) (x 4) (x 11 0) ((x 12 0) - 1) ((x 13 0) - 1) (x 14 0) (x 15 0) (x 16 0) (x 17 0) (x 18 0) (x 19 0) (x 20 0)) := hD
      refine cx_iconst hx hb d_PR_changeMarks_74 ?_
      exact hret (up (up (up x 1 (fu (fu (x 1) (x 12 0) (k)) (x 13 0) (k))) 12 (cst ((x 12 0) - 1))) 13 (cst ((x 13 0) - 1))) (pst_of (by unfold mrkS; rw [if_pos (by omega)]) (show okX (up (up (up x 1 (fu (fu (x 1) (x 12 0) (k)) (x 13 0) (k))) 12 (cst ((x 12 0) - 1))) 13 (cst ((x 13 0) - 1))) from ⟨hC, (show okR (x 11 0) ((x 12 0) - 1) ((x 13 0) - 1) (x 14 0) (x 15 0) (x 16 0) (x 17 0) (x 18 0) (x 19 0) (x 20 0) by have h8 := hX.2.1; unfold okR at h8 ⊢; omega), hX.2.2⟩)) hP hD hS d_PR_changeMarks_75
    · refine cx_if_ne (tgt := 30) hx hb d_PR_changeMarks_25 rfl (by omega) (fun h0 => absurd h0 (by decide)) (fun _ => ?_)
      refine cx_iconst hx hb d_PR_changeMarks_28 ?_
      exact hret x (pst_of (by unfold mrkS; rw [if_neg (by omega)]) hX) hP hD hS d_PR_changeMarks_29
  · refine cx_if_eq (tgt := 28) hx hb d_PR_changeMarks_11 rfl (by omega) (fun _ => ?_) (fun h0 => absurd h0 (by decide))
    refine cx_iconst hx hb d_PR_changeMarks_28 ?_
    exact hret x (pst_of (by unfold mrkS; rw [if_neg (by omega)]) hX) hP hD hS d_PR_changeMarks_29

set_option maxHeartbeats 4000000 in
set_option maxRecDepth 100000 in
theorem c_PR_moveBits15 (l : Launch) (D : va_G) (T : Nat → ClassId) (sz : Nat) (q : Nat → Nat) (n : Nat) (hn : 400 ≤ n ∧ n ≤ 2000) (d : Int → Int) (x : SX) (hX : okX x) : MI l y_PR_moveBits (wY y_PR_moveBits b_PR_moveBits 2 (some .int)) (rmK 1) D vwCl (tyL T) nwL sz [.ref (q 9), .int (iI (15))] (prW T q n d (x 0) (x 1) (x 2) (x 3) (x 4) (x 11 0) (x 12 0) (x 13 0) (x 14 0) (x 15 0) (x 16 0) (x 17 0) (x 18 0) (x 19 0) (x 20 0)) (fun r u => pst (bitS n 15 x) r u) (fun u => prX T q n d u) := by
  refine cx_inI (by decide) rfl (Nat.le_of_ble_eq_true rfl) ?_
  intro p e s m below meth cd ls A Q hx hb hml hT hown hret hP hK hD hN hS hA hl
  have hown : s.vm.findClass R_PR = some m.cls := hown
  have hl : lv_has ls 2 [(0, .ref (q 9)), (1, .int (iI (15)))] := hl
  have hC := hX.1
  have hR0 := hX.2.1
  have hF := hX.2.2
  unfold okR at hR0
  have hcA := hC.1 (x 12 0)
  have hcB := hC.1 (x 13 0)
  refine lv_aload_n hx hb d_PR_moveBits_0 rfl (lv_at hl 0 rfl) ?_
  refine va_get (D := D) (ci := 2) (v := .ref (q 1)) (C := R_PR) (T := T_PR) (N := 12) hx hb hT lays_PR hown hK hP 0 rfl rfl 0 (by decide) (hT _ tw_78) (fun _ h9 => h9) rfl d_PR_moveBits_1 ?_
  refine lv_aload_n hx hb d_PR_moveBits_4 rfl (lv_at hl 0 rfl) ?_
  refine va_get (D := D) (ci := 2) (v := .int (iI (x 12 0))) (C := R_PR) (T := T_PR) (N := 12) hx hb hT lays_PR hown hK hP 0 rfl rfl 6 (by decide) (hT _ tw_85) (fun _ h9 => h9) rfl d_PR_moveBits_5 ?_
  refine cx_cI (ws2 := fun _ => prW T q n d (x 0) (x 1) (x 2) (x 3) (x 4) (x 11 0) (x 12 0) (x 13 0) (x 14 0) (x 15 0) (x 16 0) (x 17 0) (x 18 0) (x 19 0) (x 20 0)) (cx_rV (q0 := 9) (ci := 3) (rest := []) (As := [.int (iI (x 12 0))]) hx hb hml hown hT hK hN hP hD hl.1 tw_320 k_ST_has (c_ST_has l D T s.heap.size q n (x 0) (x 1) hn (x 12 0) (by omega)) ⟨by decide, by decide⟩ ⟨rfl, rfl⟩ [9, 10] (by decide) rfl rfl rfl rfl rfl (Nat.le_of_ble_eq_true rfl) ⟨Nat.zero_le _, Nat.zero_le _⟩ d_PR_moveBits_8) hP hD hS hA [9, 10] [0, 1, 2, 3, 4, 5, 6, 7, 8] [0, 1, 2, 3, 4, 5, 6, 7, 8, 9, 10] rfl (wr := [(q 9, .inr (2, [.ref (q 1), .ref (q 3), .ref (q 5), .ref (q 7), .ref (q 10), .int (iI (x 11 0)), .int (iI (x 12 0)), .int (iI (x 13 0)), .int (iI (x 14 0)), .int (iI (x 15 0)), .int (iI (x 16 0)), .int (iI (x 17 0))])), (q 3, .inr (1, [.int (iI (20)), .int (iI (80)), .ref (q 4), .int (iI (x 18 0))])), (q 4, .inl (T 0, 1680, .inl (fun jj : Nat => (iF (x 2)) (jj : Int)))), (q 5, .inr (1, [.int (iI (40)), .int (iI (132)), .ref (q 6), .int (iI (x 19 0))])), (q 6, .inl (T 0, 5412, .inl (fun jj : Nat => (iF (x 3)) (jj : Int)))), (q 7, .inr (1, [.int (iI (20)), .int (iI (80)), .ref (q 8), .int (iI (x 20 0))])), (q 8, .inl (T 0, 1680, .inl (fun jj : Nat => (iF (x 4)) (jj : Int)))), (q 10, .inr (0, [.ref (q 1), .ref (q 11)])), (q 11, .inl (T 0, n, .inl (fun jj : Nat => (iF d) (jj : Int))))]) rfl (by decide) (by decide) (fun _ => rfl) (by decide) (fun r u_ H locs hq8 hP hD hS => ?_)
  rcases hq8 with ⟨rfl, h8⟩ | ⟨rfl, h8⟩
  · refine cx_if_eq (tgt := 28) hx hb d_PR_moveBits_11 rfl (by omega) (fun h0 => absurd h0 (by decide)) (fun _ => ?_)
    refine lv_aload_n hx hb d_PR_moveBits_14 rfl (lv_at hl 0 rfl) ?_
    refine va_get (D := D) (ci := 2) (v := .ref (q 1)) (C := R_PR) (T := T_PR) (N := 12) hx hb hT lays_PR hown hK hP 0 rfl rfl 0 (by decide) (hT _ tw_78) (fun _ h9 => h9) rfl d_PR_moveBits_15 ?_
    refine lv_aload_n hx hb d_PR_moveBits_18 rfl (lv_at hl 0 rfl) ?_
    refine va_get (D := D) (ci := 2) (v := .int (iI (x 13 0))) (C := R_PR) (T := T_PR) (N := 12) hx hb hT lays_PR hown hK hP 0 rfl rfl 7 (by decide) (hT _ tw_87) (fun _ h9 => h9) rfl d_PR_moveBits_19 ?_
    refine cx_cI (ws2 := fun _ => prW T q n d (x 0) (x 1) (x 2) (x 3) (x 4) (x 11 0) (x 12 0) (x 13 0) (x 14 0) (x 15 0) (x 16 0) (x 17 0) (x 18 0) (x 19 0) (x 20 0)) (cx_rV (q0 := 9) (ci := 3) (rest := []) (As := [.int (iI (x 13 0))]) hx hb hml hown hT hK hN hP hD hl.1 tw_320 k_ST_has (c_ST_has l D T H.size q n (x 0) (x 1) hn (x 13 0) (by omega)) ⟨by decide, by decide⟩ ⟨rfl, rfl⟩ [9, 10] (by decide) rfl rfl rfl rfl rfl (Nat.le_of_ble_eq_true rfl) ⟨Nat.zero_le _, Nat.zero_le _⟩ d_PR_moveBits_22) hP hD hS hA [9, 10] [0, 1, 2, 3, 4, 5, 6, 7, 8] [0, 1, 2, 3, 4, 5, 6, 7, 8, 9, 10] rfl (wr := [(q 9, .inr (2, [.ref (q 1), .ref (q 3), .ref (q 5), .ref (q 7), .ref (q 10), .int (iI (x 11 0)), .int (iI (x 12 0)), .int (iI (x 13 0)), .int (iI (x 14 0)), .int (iI (x 15 0)), .int (iI (x 16 0)), .int (iI (x 17 0))])), (q 3, .inr (1, [.int (iI (20)), .int (iI (80)), .ref (q 4), .int (iI (x 18 0))])), (q 4, .inl (T 0, 1680, .inl (fun jj : Nat => (iF (x 2)) (jj : Int)))), (q 5, .inr (1, [.int (iI (40)), .int (iI (132)), .ref (q 6), .int (iI (x 19 0))])), (q 6, .inl (T 0, 5412, .inl (fun jj : Nat => (iF (x 3)) (jj : Int)))), (q 7, .inr (1, [.int (iI (20)), .int (iI (80)), .ref (q 8), .int (iI (x 20 0))])), (q 8, .inl (T 0, 1680, .inl (fun jj : Nat => (iF (x 4)) (jj : Int)))), (q 10, .inr (0, [.ref (q 1), .ref (q 11)])), (q 11, .inl (T 0, n, .inl (fun jj : Nat => (iF d) (jj : Int))))]) rfl (by decide) (by decide) (fun _ => rfl) (by decide) (fun r u_ H locs hq22 hP hD hS => ?_)
    rcases hq22 with ⟨rfl, h22⟩ | ⟨rfl, h22⟩
    · refine cx_if_ne (tgt := 30) hx hb d_PR_moveBits_25 rfl (by omega) (fun _ => ?_) (fun h0 => absurd h0 (by decide))
      refine lv_aload_n hx hb d_PR_moveBits_30 rfl (lv_at hl 0 rfl) ?_
      refine va_get (D := D) (ci := 2) (v := .ref (q 1)) (C := R_PR) (T := T_PR) (N := 12) hx hb hT lays_PR hown hK hP 0 rfl rfl 0 (by decide) (hT _ tw_78) (fun _ h9 => h9) rfl d_PR_moveBits_31 ?_
      refine lv_aload_n hx hb d_PR_moveBits_34 rfl (lv_at hl 0 rfl) ?_
      refine va_get (D := D) (ci := 2) (v := .int (iI (x 13 0))) (C := R_PR) (T := T_PR) (N := 12) hx hb hT lays_PR hown hK hP 0 rfl rfl 7 (by decide) (hT _ tw_87) (fun _ h9 => h9) rfl d_PR_moveBits_35 ?_
      refine lv_aload_n hx hb d_PR_moveBits_38 rfl (lv_at hl 0 rfl) ?_
      refine va_get (D := D) (ci := 2) (v := .ref (q 1)) (C := R_PR) (T := T_PR) (N := 12) hx hb hT lays_PR hown hK hP 0 rfl rfl 0 (by decide) (hT _ tw_78) (fun _ h9 => h9) rfl d_PR_moveBits_39 ?_
      refine lv_aload_n hx hb d_PR_moveBits_42 rfl (lv_at hl 0 rfl) ?_
      refine va_get (D := D) (ci := 2) (v := .int (iI (x 13 0))) (C := R_PR) (T := T_PR) (N := 12) hx hb hT lays_PR hown hK hP 0 rfl rfl 7 (by decide) (hT _ tw_87) (fun _ h9 => h9) rfl d_PR_moveBits_43 ?_
      refine cx_cI (ws2 := fun _ => prW T q n d (x 0) (x 1) (x 2) (x 3) (x 4) (x 11 0) (x 12 0) (x 13 0) (x 14 0) (x 15 0) (x 16 0) (x 17 0) (x 18 0) (x 19 0) (x 20 0)) (cx_rV (q0 := 9) (ci := 3) (rest := [.int (iI (x 13 0)), .ref (q 1)]) (As := [.int (iI (x 13 0))]) hx hb hml hown hT hK hN hP hD hl.1 tw_322 k_ST_character (c_ST_character l D T H.size q n (x 0) (x 1) hn hC (x 13 0) (by omega)) ⟨by decide, by decide⟩ ⟨rfl, rfl⟩ [9, 10] (by decide) rfl rfl rfl rfl rfl (Nat.le_of_ble_eq_true rfl) ⟨Nat.zero_le _, Nat.zero_le _⟩ d_PR_moveBits_46) hP hD hS hA [9, 10] [0, 1, 2, 3, 4, 5, 6, 7, 8] [0, 1, 2, 3, 4, 5, 6, 7, 8, 9, 10] rfl (wr := [(q 9, .inr (2, [.ref (q 1), .ref (q 3), .ref (q 5), .ref (q 7), .ref (q 10), .int (iI (x 11 0)), .int (iI (x 12 0)), .int (iI (x 13 0)), .int (iI (x 14 0)), .int (iI (x 15 0)), .int (iI (x 16 0)), .int (iI (x 17 0))])), (q 3, .inr (1, [.int (iI (20)), .int (iI (80)), .ref (q 4), .int (iI (x 18 0))])), (q 4, .inl (T 0, 1680, .inl (fun jj : Nat => (iF (x 2)) (jj : Int)))), (q 5, .inr (1, [.int (iI (40)), .int (iI (132)), .ref (q 6), .int (iI (x 19 0))])), (q 6, .inl (T 0, 5412, .inl (fun jj : Nat => (iF (x 3)) (jj : Int)))), (q 7, .inr (1, [.int (iI (20)), .int (iI (80)), .ref (q 8), .int (iI (x 20 0))])), (q 8, .inl (T 0, 1680, .inl (fun jj : Nat => (iF (x 4)) (jj : Int)))), (q 10, .inr (0, [.ref (q 1), .ref (q 11)])), (q 11, .inl (T 0, n, .inl (fun jj : Nat => (iF d) (jj : Int))))]) rfl (by decide) (by decide) (fun _ => rfl) (by decide) (fun r u_ H locs hq46 hP hD hS => ?_)
      subst hq46
      refine lv_iload_n hx hb d_PR_moveBits_49 rfl (lv_at hl 1 rfl) ?_
      refine cx_iconst hx hb d_PR_moveBits_50 ?_
      refine lv_ixor hx hb d_PR_moveBits_51 ?_
      refine cx_eq (show iI 15 ^^^ iI (-1) = iI (-16) by decide +kernel) ?_
      refine lv_iand hx hb d_PR_moveBits_52 ?_
      refine cx_eq (bt_n15 hcB) ?_
      refine lv_aload_n hx hb d_PR_moveBits_53 rfl (lv_at hl 0 rfl) ?_
      refine va_get (D := D) (ci := 2) (v := .ref (q 1)) (C := R_PR) (T := T_PR) (N := 12) hx hb hT lays_PR hown hK hP 0 rfl rfl 0 (by decide) (hT _ tw_78) (fun _ h9 => h9) rfl d_PR_moveBits_54 ?_
      refine lv_aload_n hx hb d_PR_moveBits_57 rfl (lv_at hl 0 rfl) ?_
      refine va_get (D := D) (ci := 2) (v := .int (iI (x 12 0))) (C := R_PR) (T := T_PR) (N := 12) hx hb hT lays_PR hown hK hP 0 rfl rfl 6 (by decide) (hT _ tw_85) (fun _ h9 => h9) rfl d_PR_moveBits_58 ?_
      refine cx_cI (ws2 := fun _ => prW T q n d (x 0) (x 1) (x 2) (x 3) (x 4) (x 11 0) (x 12 0) (x 13 0) (x 14 0) (x 15 0) (x 16 0) (x 17 0) (x 18 0) (x 19 0) (x 20 0)) (cx_rV (q0 := 9) (ci := 3) (rest := [.int (iI (x 0 (x 13 0) / 16 * 16)), .int (iI (x 13 0)), .ref (q 1)]) (As := [.int (iI (x 12 0))]) hx hb hml hown hT hK hN hP hD hl.1 tw_322 k_ST_character (c_ST_character l D T H.size q n (x 0) (x 1) hn hC (x 12 0) (by omega)) ⟨by decide, by decide⟩ ⟨rfl, rfl⟩ [9, 10] (by decide) rfl rfl rfl rfl rfl (Nat.le_of_ble_eq_true rfl) ⟨Nat.zero_le _, Nat.zero_le _⟩ d_PR_moveBits_61) hP hD hS hA [9, 10] [0, 1, 2, 3, 4, 5, 6, 7, 8] [0, 1, 2, 3, 4, 5, 6, 7, 8, 9, 10] rfl (wr := [(q 9, .inr (2, [.ref (q 1), .ref (q 3), .ref (q 5), .ref (q 7), .ref (q 10), .int (iI (x 11 0)), .int (iI (x 12 0)), .int (iI (x 13 0)), .int (iI (x 14 0)), .int (iI (x 15 0)), .int (iI (x 16 0)), .int (iI (x 17 0))])), (q 3, .inr (1, [.int (iI (20)), .int (iI (80)), .ref (q 4), .int (iI (x 18 0))])), (q 4, .inl (T 0, 1680, .inl (fun jj : Nat => (iF (x 2)) (jj : Int)))), (q 5, .inr (1, [.int (iI (40)), .int (iI (132)), .ref (q 6), .int (iI (x 19 0))])), (q 6, .inl (T 0, 5412, .inl (fun jj : Nat => (iF (x 3)) (jj : Int)))), (q 7, .inr (1, [.int (iI (20)), .int (iI (80)), .ref (q 8), .int (iI (x 20 0))])), (q 8, .inl (T 0, 1680, .inl (fun jj : Nat => (iF (x 4)) (jj : Int)))), (q 10, .inr (0, [.ref (q 1), .ref (q 11)])), (q 11, .inl (T 0, n, .inl (fun jj : Nat => (iF d) (jj : Int))))]) rfl (by decide) (by decide) (fun _ => rfl) (by decide) (fun r u_ H locs hq61 hP hD hS => ?_)
      subst hq61
      refine lv_iload_n hx hb d_PR_moveBits_64 rfl (lv_at hl 1 rfl) ?_
      refine lv_iand hx hb d_PR_moveBits_65 ?_
      refine cx_eq (bt_c15 hcA) ?_
      refine lv_ior hx hb d_PR_moveBits_66 ?_
      refine cx_eq (bt_or1 hcB hcA) ?_
      have hpb := pbt_in 15 hcB hcA
      refine cx_cV (ws2 := fun _ => prW T q n d (fu (x 0) (x 13 0) (pbt 15 (x 0 (x 13 0)) (x 0 (x 12 0)))) (x 1) (x 2) (x 3) (x 4) (x 11 0) (x 12 0) (x 13 0) (x 14 0) (x 15 0) (x 16 0) (x 17 0) (x 18 0) (x 19 0) (x 20 0)) (cx_rV (q0 := 9) (ci := 3) (rest := []) (As := [.int (iI (x 13 0)), .int (iI (pbt 15 (x 0 (x 13 0)) (x 0 (x 12 0))))]) hx hb hml hown hT hK hN hP hD hl.1 tw_427 k_ST_write (c_ST_write l D T H.size q n (x 0) (x 1) hn hC (x 13 0) (by omega) (pbt 15 (x 0 (x 13 0)) (x 0 (x 12 0))) (by omega)) ⟨by decide, by decide⟩ ⟨rfl, rfl⟩ [9, 10] (by decide) rfl rfl rfl rfl rfl (Nat.le_of_ble_eq_true rfl) ⟨Nat.zero_le _, Nat.zero_le _⟩ d_PR_moveBits_67) hP hD hS hA [9, 10] [0, 1, 2, 3, 4, 5, 6, 7, 8] [0, 1, 2, 3, 4, 5, 6, 7, 8, 9, 10] rfl (wr := [(q 9, .inr (2, [.ref (q 1), .ref (q 3), .ref (q 5), .ref (q 7), .ref (q 10), .int (iI (x 11 0)), .int (iI (x 12 0)), .int (iI (x 13 0)), .int (iI (x 14 0)), .int (iI (x 15 0)), .int (iI (x 16 0)), .int (iI (x 17 0))])), (q 3, .inr (1, [.int (iI (20)), .int (iI (80)), .ref (q 4), .int (iI (x 18 0))])), (q 4, .inl (T 0, 1680, .inl (fun jj : Nat => (iF (x 2)) (jj : Int)))), (q 5, .inr (1, [.int (iI (40)), .int (iI (132)), .ref (q 6), .int (iI (x 19 0))])), (q 6, .inl (T 0, 5412, .inl (fun jj : Nat => (iF (x 3)) (jj : Int)))), (q 7, .inr (1, [.int (iI (20)), .int (iI (80)), .ref (q 8), .int (iI (x 20 0))])), (q 8, .inl (T 0, 1680, .inl (fun jj : Nat => (iF (x 4)) (jj : Int)))), (q 10, .inr (0, [.ref (q 1), .ref (q 11)])), (q 11, .inl (T 0, n, .inl (fun jj : Nat => (iF d) (jj : Int))))]) rfl (by decide) (by decide) (fun _ => rfl) (by decide) (fun u_ H locs hq67 hP hD hS => ?_)
      have hC : okC (fu (x 0) (x 13 0) (pbt 15 (x 0 (x 13 0)) (x 0 (x 12 0)))) (x 1) := okC_fu hC (by omega)
      refine lv_aload_n hx hb d_PR_moveBits_70 rfl (lv_at hl 0 rfl) ?_
      refine lv_dup hx hb d_PR_moveBits_71 rfl ?_
      refine va_get (D := D) (ci := 2) (v := .int (iI (x 12 0))) (C := R_PR) (T := T_PR) (N := 12) hx hb hT lays_PR hown hK hP 0 rfl rfl 6 (by decide) (hT _ tw_85) (fun _ h9 => h9) rfl d_PR_moveBits_72 ?_
      refine cx_iconst hx hb d_PR_moveBits_75 ?_
      refine cx_isub hx hb d_PR_moveBits_76 ?_
      refine va_put (D := D) (ci := 2) (v := .int (iI ((x 12 0) - 1))) (ty := .int) (C := R_PR) (T := T_PR) (N := 12) hx hb hT lays_PR t_PR t_PR_ok n_PR hown hK hP hD hS 0 rfl rfl 6 (by decide) (hT _ tw_85) (fun _ h9 => h9) rfl (by decide +kernel) rfl rfl (Nat.le_of_ble_eq_true rfl) d_PR_moveBits_77 (fun H locs hP hD hS => ?_)
      have hP : va_P D vwCl (prW T q n d (fu (x 0) (x 13 0) (pbt 15 (x 0 (x 13 0)) (x 0 (x 12 0)))) (x 1) (x 2) (x 3) (x 4) (x 11 0) ((x 12 0) - 1) (x 13 0) (x 14 0) (x 15 0) (x 16 0) (x 17 0) (x 18 0) (x 19 0) (x 20 0)) H := hP
      have hD : va_D A (prW T q n d (fu (x 0) (x 13 0) (pbt 15 (x 0 (x 13 0)) (x 0 (x 12 0)))) (x 1) (x 2) (x 3) (x 4) (x 11 0) ((x 12 0) - 1) (x 13 0) (x 14 0) (x 15 0) (x 16 0) (x 17 0) (x 18 0) (x 19 0) (x 20 0)) := hD
      refine lv_aload_n hx hb d_PR_moveBits_80 rfl (lv_at hl 0 rfl) ?_
      refine lv_dup hx hb d_PR_moveBits_81 rfl ?_
      refine va_get (D := D) (ci := 2) (v := .int (iI (x 13 0))) (C := R_PR) (T := T_PR) (N := 12) hx hb hT lays_PR hown hK hP 0 rfl rfl 7 (by decide) (hT _ tw_87) (fun _ h9 => h9) rfl d_PR_moveBits_82 ?_
      refine cx_iconst hx hb d_PR_moveBits_85 ?_
      refine cx_isub hx hb d_PR_moveBits_86 ?_
      refine va_put (D := D) (ci := 2) (v := .int (iI ((x 13 0) - 1))) (ty := .int) (C := R_PR) (T := T_PR) (N := 12) hx hb hT lays_PR t_PR t_PR_ok n_PR hown hK hP hD hS 0 rfl rfl 7 (by decide) (hT _ tw_87) (fun _ h9 => h9) rfl (by decide +kernel) rfl rfl (Nat.le_of_ble_eq_true rfl) d_PR_moveBits_87 (fun H locs hP hD hS => ?_)
      have hP : va_P D vwCl (prW T q n d (fu (x 0) (x 13 0) (pbt 15 (x 0 (x 13 0)) (x 0 (x 12 0)))) (x 1) (x 2) (x 3) (x 4) (x 11 0) ((x 12 0) - 1) ((x 13 0) - 1) (x 14 0) (x 15 0) (x 16 0) (x 17 0) (x 18 0) (x 19 0) (x 20 0)) H := hP
      have hD : va_D A (prW T q n d (fu (x 0) (x 13 0) (pbt 15 (x 0 (x 13 0)) (x 0 (x 12 0)))) (x 1) (x 2) (x 3) (x 4) (x 11 0) ((x 12 0) - 1) ((x 13 0) - 1) (x 14 0) (x 15 0) (x 16 0) (x 17 0) (x 18 0) (x 19 0) (x 20 0)) := hD
      refine cx_iconst hx hb d_PR_moveBits_90 ?_
      exact hret (up (up (up x 0 (fu (x 0) (x 13 0) (pbt 15 (x 0 (x 13 0)) (x 0 (x 12 0))))) 12 (cst ((x 12 0) - 1))) 13 (cst ((x 13 0) - 1))) (pst_of (by unfold bitS; rw [if_pos (by omega)]) (show okX (up (up (up x 0 (fu (x 0) (x 13 0) (pbt 15 (x 0 (x 13 0)) (x 0 (x 12 0))))) 12 (cst ((x 12 0) - 1))) 13 (cst ((x 13 0) - 1))) from ⟨hC, (show okR (x 11 0) ((x 12 0) - 1) ((x 13 0) - 1) (x 14 0) (x 15 0) (x 16 0) (x 17 0) (x 18 0) (x 19 0) (x 20 0) by have h8 := hX.2.1; unfold okR at h8 ⊢; omega), hX.2.2⟩)) hP hD hS d_PR_moveBits_91
    · refine cx_if_ne (tgt := 30) hx hb d_PR_moveBits_25 rfl (by omega) (fun h0 => absurd h0 (by decide)) (fun _ => ?_)
      refine cx_iconst hx hb d_PR_moveBits_28 ?_
      exact hret x (pst_of (by unfold bitS; rw [if_neg (by omega)]) hX) hP hD hS d_PR_moveBits_29
  · refine cx_if_eq (tgt := 28) hx hb d_PR_moveBits_11 rfl (by omega) (fun _ => ?_) (fun h0 => absurd h0 (by decide))
    refine cx_iconst hx hb d_PR_moveBits_28 ?_
    exact hret x (pst_of (by unfold bitS; rw [if_neg (by omega)]) hX) hP hD hS d_PR_moveBits_29

set_option maxHeartbeats 4000000 in
set_option maxRecDepth 100000 in
theorem c_PR_moveBits48 (l : Launch) (D : va_G) (T : Nat → ClassId) (sz : Nat) (q : Nat → Nat) (n : Nat) (hn : 400 ≤ n ∧ n ≤ 2000) (d : Int → Int) (x : SX) (hX : okX x) : MI l y_PR_moveBits (wY y_PR_moveBits b_PR_moveBits 2 (some .int)) (rmK 1) D vwCl (tyL T) nwL sz [.ref (q 9), .int (iI (48))] (prW T q n d (x 0) (x 1) (x 2) (x 3) (x 4) (x 11 0) (x 12 0) (x 13 0) (x 14 0) (x 15 0) (x 16 0) (x 17 0) (x 18 0) (x 19 0) (x 20 0)) (fun r u => pst (bitS n 48 x) r u) (fun u => prX T q n d u) := by
  refine cx_inI (by decide) rfl (Nat.le_of_ble_eq_true rfl) ?_
  intro p e s m below meth cd ls A Q hx hb hml hT hown hret hP hK hD hN hS hA hl
  have hown : s.vm.findClass R_PR = some m.cls := hown
  have hl : lv_has ls 2 [(0, .ref (q 9)), (1, .int (iI (48)))] := hl
  have hC := hX.1
  have hR0 := hX.2.1
  have hF := hX.2.2
  unfold okR at hR0
  have hcA := hC.1 (x 12 0)
  have hcB := hC.1 (x 13 0)
  refine lv_aload_n hx hb d_PR_moveBits_0 rfl (lv_at hl 0 rfl) ?_
  refine va_get (D := D) (ci := 2) (v := .ref (q 1)) (C := R_PR) (T := T_PR) (N := 12) hx hb hT lays_PR hown hK hP 0 rfl rfl 0 (by decide) (hT _ tw_78) (fun _ h9 => h9) rfl d_PR_moveBits_1 ?_
  refine lv_aload_n hx hb d_PR_moveBits_4 rfl (lv_at hl 0 rfl) ?_
  refine va_get (D := D) (ci := 2) (v := .int (iI (x 12 0))) (C := R_PR) (T := T_PR) (N := 12) hx hb hT lays_PR hown hK hP 0 rfl rfl 6 (by decide) (hT _ tw_85) (fun _ h9 => h9) rfl d_PR_moveBits_5 ?_
  refine cx_cI (ws2 := fun _ => prW T q n d (x 0) (x 1) (x 2) (x 3) (x 4) (x 11 0) (x 12 0) (x 13 0) (x 14 0) (x 15 0) (x 16 0) (x 17 0) (x 18 0) (x 19 0) (x 20 0)) (cx_rV (q0 := 9) (ci := 3) (rest := []) (As := [.int (iI (x 12 0))]) hx hb hml hown hT hK hN hP hD hl.1 tw_320 k_ST_has (c_ST_has l D T s.heap.size q n (x 0) (x 1) hn (x 12 0) (by omega)) ⟨by decide, by decide⟩ ⟨rfl, rfl⟩ [9, 10] (by decide) rfl rfl rfl rfl rfl (Nat.le_of_ble_eq_true rfl) ⟨Nat.zero_le _, Nat.zero_le _⟩ d_PR_moveBits_8) hP hD hS hA [9, 10] [0, 1, 2, 3, 4, 5, 6, 7, 8] [0, 1, 2, 3, 4, 5, 6, 7, 8, 9, 10] rfl (wr := [(q 9, .inr (2, [.ref (q 1), .ref (q 3), .ref (q 5), .ref (q 7), .ref (q 10), .int (iI (x 11 0)), .int (iI (x 12 0)), .int (iI (x 13 0)), .int (iI (x 14 0)), .int (iI (x 15 0)), .int (iI (x 16 0)), .int (iI (x 17 0))])), (q 3, .inr (1, [.int (iI (20)), .int (iI (80)), .ref (q 4), .int (iI (x 18 0))])), (q 4, .inl (T 0, 1680, .inl (fun jj : Nat => (iF (x 2)) (jj : Int)))), (q 5, .inr (1, [.int (iI (40)), .int (iI (132)), .ref (q 6), .int (iI (x 19 0))])), (q 6, .inl (T 0, 5412, .inl (fun jj : Nat => (iF (x 3)) (jj : Int)))), (q 7, .inr (1, [.int (iI (20)), .int (iI (80)), .ref (q 8), .int (iI (x 20 0))])), (q 8, .inl (T 0, 1680, .inl (fun jj : Nat => (iF (x 4)) (jj : Int)))), (q 10, .inr (0, [.ref (q 1), .ref (q 11)])), (q 11, .inl (T 0, n, .inl (fun jj : Nat => (iF d) (jj : Int))))]) rfl (by decide) (by decide) (fun _ => rfl) (by decide) (fun r u_ H locs hq8 hP hD hS => ?_)
  rcases hq8 with ⟨rfl, h8⟩ | ⟨rfl, h8⟩
  · refine cx_if_eq (tgt := 28) hx hb d_PR_moveBits_11 rfl (by omega) (fun h0 => absurd h0 (by decide)) (fun _ => ?_)
    refine lv_aload_n hx hb d_PR_moveBits_14 rfl (lv_at hl 0 rfl) ?_
    refine va_get (D := D) (ci := 2) (v := .ref (q 1)) (C := R_PR) (T := T_PR) (N := 12) hx hb hT lays_PR hown hK hP 0 rfl rfl 0 (by decide) (hT _ tw_78) (fun _ h9 => h9) rfl d_PR_moveBits_15 ?_
    refine lv_aload_n hx hb d_PR_moveBits_18 rfl (lv_at hl 0 rfl) ?_
    refine va_get (D := D) (ci := 2) (v := .int (iI (x 13 0))) (C := R_PR) (T := T_PR) (N := 12) hx hb hT lays_PR hown hK hP 0 rfl rfl 7 (by decide) (hT _ tw_87) (fun _ h9 => h9) rfl d_PR_moveBits_19 ?_
    refine cx_cI (ws2 := fun _ => prW T q n d (x 0) (x 1) (x 2) (x 3) (x 4) (x 11 0) (x 12 0) (x 13 0) (x 14 0) (x 15 0) (x 16 0) (x 17 0) (x 18 0) (x 19 0) (x 20 0)) (cx_rV (q0 := 9) (ci := 3) (rest := []) (As := [.int (iI (x 13 0))]) hx hb hml hown hT hK hN hP hD hl.1 tw_320 k_ST_has (c_ST_has l D T H.size q n (x 0) (x 1) hn (x 13 0) (by omega)) ⟨by decide, by decide⟩ ⟨rfl, rfl⟩ [9, 10] (by decide) rfl rfl rfl rfl rfl (Nat.le_of_ble_eq_true rfl) ⟨Nat.zero_le _, Nat.zero_le _⟩ d_PR_moveBits_22) hP hD hS hA [9, 10] [0, 1, 2, 3, 4, 5, 6, 7, 8] [0, 1, 2, 3, 4, 5, 6, 7, 8, 9, 10] rfl (wr := [(q 9, .inr (2, [.ref (q 1), .ref (q 3), .ref (q 5), .ref (q 7), .ref (q 10), .int (iI (x 11 0)), .int (iI (x 12 0)), .int (iI (x 13 0)), .int (iI (x 14 0)), .int (iI (x 15 0)), .int (iI (x 16 0)), .int (iI (x 17 0))])), (q 3, .inr (1, [.int (iI (20)), .int (iI (80)), .ref (q 4), .int (iI (x 18 0))])), (q 4, .inl (T 0, 1680, .inl (fun jj : Nat => (iF (x 2)) (jj : Int)))), (q 5, .inr (1, [.int (iI (40)), .int (iI (132)), .ref (q 6), .int (iI (x 19 0))])), (q 6, .inl (T 0, 5412, .inl (fun jj : Nat => (iF (x 3)) (jj : Int)))), (q 7, .inr (1, [.int (iI (20)), .int (iI (80)), .ref (q 8), .int (iI (x 20 0))])), (q 8, .inl (T 0, 1680, .inl (fun jj : Nat => (iF (x 4)) (jj : Int)))), (q 10, .inr (0, [.ref (q 1), .ref (q 11)])), (q 11, .inl (T 0, n, .inl (fun jj : Nat => (iF d) (jj : Int))))]) rfl (by decide) (by decide) (fun _ => rfl) (by decide) (fun r u_ H locs hq22 hP hD hS => ?_)
    rcases hq22 with ⟨rfl, h22⟩ | ⟨rfl, h22⟩
    · refine cx_if_ne (tgt := 30) hx hb d_PR_moveBits_25 rfl (by omega) (fun _ => ?_) (fun h0 => absurd h0 (by decide))
      refine lv_aload_n hx hb d_PR_moveBits_30 rfl (lv_at hl 0 rfl) ?_
      refine va_get (D := D) (ci := 2) (v := .ref (q 1)) (C := R_PR) (T := T_PR) (N := 12) hx hb hT lays_PR hown hK hP 0 rfl rfl 0 (by decide) (hT _ tw_78) (fun _ h9 => h9) rfl d_PR_moveBits_31 ?_
      refine lv_aload_n hx hb d_PR_moveBits_34 rfl (lv_at hl 0 rfl) ?_
      refine va_get (D := D) (ci := 2) (v := .int (iI (x 13 0))) (C := R_PR) (T := T_PR) (N := 12) hx hb hT lays_PR hown hK hP 0 rfl rfl 7 (by decide) (hT _ tw_87) (fun _ h9 => h9) rfl d_PR_moveBits_35 ?_
      refine lv_aload_n hx hb d_PR_moveBits_38 rfl (lv_at hl 0 rfl) ?_
      refine va_get (D := D) (ci := 2) (v := .ref (q 1)) (C := R_PR) (T := T_PR) (N := 12) hx hb hT lays_PR hown hK hP 0 rfl rfl 0 (by decide) (hT _ tw_78) (fun _ h9 => h9) rfl d_PR_moveBits_39 ?_
      refine lv_aload_n hx hb d_PR_moveBits_42 rfl (lv_at hl 0 rfl) ?_
      refine va_get (D := D) (ci := 2) (v := .int (iI (x 13 0))) (C := R_PR) (T := T_PR) (N := 12) hx hb hT lays_PR hown hK hP 0 rfl rfl 7 (by decide) (hT _ tw_87) (fun _ h9 => h9) rfl d_PR_moveBits_43 ?_
      refine cx_cI (ws2 := fun _ => prW T q n d (x 0) (x 1) (x 2) (x 3) (x 4) (x 11 0) (x 12 0) (x 13 0) (x 14 0) (x 15 0) (x 16 0) (x 17 0) (x 18 0) (x 19 0) (x 20 0)) (cx_rV (q0 := 9) (ci := 3) (rest := [.int (iI (x 13 0)), .ref (q 1)]) (As := [.int (iI (x 13 0))]) hx hb hml hown hT hK hN hP hD hl.1 tw_322 k_ST_character (c_ST_character l D T H.size q n (x 0) (x 1) hn hC (x 13 0) (by omega)) ⟨by decide, by decide⟩ ⟨rfl, rfl⟩ [9, 10] (by decide) rfl rfl rfl rfl rfl (Nat.le_of_ble_eq_true rfl) ⟨Nat.zero_le _, Nat.zero_le _⟩ d_PR_moveBits_46) hP hD hS hA [9, 10] [0, 1, 2, 3, 4, 5, 6, 7, 8] [0, 1, 2, 3, 4, 5, 6, 7, 8, 9, 10] rfl (wr := [(q 9, .inr (2, [.ref (q 1), .ref (q 3), .ref (q 5), .ref (q 7), .ref (q 10), .int (iI (x 11 0)), .int (iI (x 12 0)), .int (iI (x 13 0)), .int (iI (x 14 0)), .int (iI (x 15 0)), .int (iI (x 16 0)), .int (iI (x 17 0))])), (q 3, .inr (1, [.int (iI (20)), .int (iI (80)), .ref (q 4), .int (iI (x 18 0))])), (q 4, .inl (T 0, 1680, .inl (fun jj : Nat => (iF (x 2)) (jj : Int)))), (q 5, .inr (1, [.int (iI (40)), .int (iI (132)), .ref (q 6), .int (iI (x 19 0))])), (q 6, .inl (T 0, 5412, .inl (fun jj : Nat => (iF (x 3)) (jj : Int)))), (q 7, .inr (1, [.int (iI (20)), .int (iI (80)), .ref (q 8), .int (iI (x 20 0))])), (q 8, .inl (T 0, 1680, .inl (fun jj : Nat => (iF (x 4)) (jj : Int)))), (q 10, .inr (0, [.ref (q 1), .ref (q 11)])), (q 11, .inl (T 0, n, .inl (fun jj : Nat => (iF d) (jj : Int))))]) rfl (by decide) (by decide) (fun _ => rfl) (by decide) (fun r u_ H locs hq46 hP hD hS => ?_)
      subst hq46
      refine lv_iload_n hx hb d_PR_moveBits_49 rfl (lv_at hl 1 rfl) ?_
      refine cx_iconst hx hb d_PR_moveBits_50 ?_
      refine lv_ixor hx hb d_PR_moveBits_51 ?_
      refine cx_eq (show iI 48 ^^^ iI (-1) = iI (-49) by decide +kernel) ?_
      refine lv_iand hx hb d_PR_moveBits_52 ?_
      refine cx_eq (bt_n48 hcB) ?_
      refine lv_aload_n hx hb d_PR_moveBits_53 rfl (lv_at hl 0 rfl) ?_
      refine va_get (D := D) (ci := 2) (v := .ref (q 1)) (C := R_PR) (T := T_PR) (N := 12) hx hb hT lays_PR hown hK hP 0 rfl rfl 0 (by decide) (hT _ tw_78) (fun _ h9 => h9) rfl d_PR_moveBits_54 ?_
      refine lv_aload_n hx hb d_PR_moveBits_57 rfl (lv_at hl 0 rfl) ?_
      refine va_get (D := D) (ci := 2) (v := .int (iI (x 12 0))) (C := R_PR) (T := T_PR) (N := 12) hx hb hT lays_PR hown hK hP 0 rfl rfl 6 (by decide) (hT _ tw_85) (fun _ h9 => h9) rfl d_PR_moveBits_58 ?_
      refine cx_cI (ws2 := fun _ => prW T q n d (x 0) (x 1) (x 2) (x 3) (x 4) (x 11 0) (x 12 0) (x 13 0) (x 14 0) (x 15 0) (x 16 0) (x 17 0) (x 18 0) (x 19 0) (x 20 0)) (cx_rV (q0 := 9) (ci := 3) (rest := [.int (iI (x 0 (x 13 0) % 16)), .int (iI (x 13 0)), .ref (q 1)]) (As := [.int (iI (x 12 0))]) hx hb hml hown hT hK hN hP hD hl.1 tw_322 k_ST_character (c_ST_character l D T H.size q n (x 0) (x 1) hn hC (x 12 0) (by omega)) ⟨by decide, by decide⟩ ⟨rfl, rfl⟩ [9, 10] (by decide) rfl rfl rfl rfl rfl (Nat.le_of_ble_eq_true rfl) ⟨Nat.zero_le _, Nat.zero_le _⟩ d_PR_moveBits_61) hP hD hS hA [9, 10] [0, 1, 2, 3, 4, 5, 6, 7, 8] [0, 1, 2, 3, 4, 5, 6, 7, 8, 9, 10] rfl (wr := [(q 9, .inr (2, [.ref (q 1), .ref (q 3), .ref (q 5), .ref (q 7), .ref (q 10), .int (iI (x 11 0)), .int (iI (x 12 0)), .int (iI (x 13 0)), .int (iI (x 14 0)), .int (iI (x 15 0)), .int (iI (x 16 0)), .int (iI (x 17 0))])), (q 3, .inr (1, [.int (iI (20)), .int (iI (80)), .ref (q 4), .int (iI (x 18 0))])), (q 4, .inl (T 0, 1680, .inl (fun jj : Nat => (iF (x 2)) (jj : Int)))), (q 5, .inr (1, [.int (iI (40)), .int (iI (132)), .ref (q 6), .int (iI (x 19 0))])), (q 6, .inl (T 0, 5412, .inl (fun jj : Nat => (iF (x 3)) (jj : Int)))), (q 7, .inr (1, [.int (iI (20)), .int (iI (80)), .ref (q 8), .int (iI (x 20 0))])), (q 8, .inl (T 0, 1680, .inl (fun jj : Nat => (iF (x 4)) (jj : Int)))), (q 10, .inr (0, [.ref (q 1), .ref (q 11)])), (q 11, .inl (T 0, n, .inl (fun jj : Nat => (iF d) (jj : Int))))]) rfl (by decide) (by decide) (fun _ => rfl) (by decide) (fun r u_ H locs hq61 hP hD hS => ?_)
      subst hq61
      refine lv_iload_n hx hb d_PR_moveBits_64 rfl (lv_at hl 1 rfl) ?_
      refine lv_iand hx hb d_PR_moveBits_65 ?_
      refine cx_eq (bt_c48 hcA) ?_
      refine lv_ior hx hb d_PR_moveBits_66 ?_
      refine cx_eq (bt_or2 hcB hcA) ?_
      have hpb := pbt_in 48 hcB hcA
      refine cx_cV (ws2 := fun _ => prW T q n d (fu (x 0) (x 13 0) (pbt 48 (x 0 (x 13 0)) (x 0 (x 12 0)))) (x 1) (x 2) (x 3) (x 4) (x 11 0) (x 12 0) (x 13 0) (x 14 0) (x 15 0) (x 16 0) (x 17 0) (x 18 0) (x 19 0) (x 20 0)) (cx_rV (q0 := 9) (ci := 3) (rest := []) (As := [.int (iI (x 13 0)), .int (iI (pbt 48 (x 0 (x 13 0)) (x 0 (x 12 0))))]) hx hb hml hown hT hK hN hP hD hl.1 tw_427 k_ST_write (c_ST_write l D T H.size q n (x 0) (x 1) hn hC (x 13 0) (by omega) (pbt 48 (x 0 (x 13 0)) (x 0 (x 12 0))) (by omega)) ⟨by decide, by decide⟩ ⟨rfl, rfl⟩ [9, 10] (by decide) rfl rfl rfl rfl rfl (Nat.le_of_ble_eq_true rfl) ⟨Nat.zero_le _, Nat.zero_le _⟩ d_PR_moveBits_67) hP hD hS hA [9, 10] [0, 1, 2, 3, 4, 5, 6, 7, 8] [0, 1, 2, 3, 4, 5, 6, 7, 8, 9, 10] rfl (wr := [(q 9, .inr (2, [.ref (q 1), .ref (q 3), .ref (q 5), .ref (q 7), .ref (q 10), .int (iI (x 11 0)), .int (iI (x 12 0)), .int (iI (x 13 0)), .int (iI (x 14 0)), .int (iI (x 15 0)), .int (iI (x 16 0)), .int (iI (x 17 0))])), (q 3, .inr (1, [.int (iI (20)), .int (iI (80)), .ref (q 4), .int (iI (x 18 0))])), (q 4, .inl (T 0, 1680, .inl (fun jj : Nat => (iF (x 2)) (jj : Int)))), (q 5, .inr (1, [.int (iI (40)), .int (iI (132)), .ref (q 6), .int (iI (x 19 0))])), (q 6, .inl (T 0, 5412, .inl (fun jj : Nat => (iF (x 3)) (jj : Int)))), (q 7, .inr (1, [.int (iI (20)), .int (iI (80)), .ref (q 8), .int (iI (x 20 0))])), (q 8, .inl (T 0, 1680, .inl (fun jj : Nat => (iF (x 4)) (jj : Int)))), (q 10, .inr (0, [.ref (q 1), .ref (q 11)])), (q 11, .inl (T 0, n, .inl (fun jj : Nat => (iF d) (jj : Int))))]) rfl (by decide) (by decide) (fun _ => rfl) (by decide) (fun u_ H locs hq67 hP hD hS => ?_)
      have hC : okC (fu (x 0) (x 13 0) (pbt 48 (x 0 (x 13 0)) (x 0 (x 12 0)))) (x 1) := okC_fu hC (by omega)
      refine lv_aload_n hx hb d_PR_moveBits_70 rfl (lv_at hl 0 rfl) ?_
      refine lv_dup hx hb d_PR_moveBits_71 rfl ?_
      refine va_get (D := D) (ci := 2) (v := .int (iI (x 12 0))) (C := R_PR) (T := T_PR) (N := 12) hx hb hT lays_PR hown hK hP 0 rfl rfl 6 (by decide) (hT _ tw_85) (fun _ h9 => h9) rfl d_PR_moveBits_72 ?_
      refine cx_iconst hx hb d_PR_moveBits_75 ?_
      refine cx_isub hx hb d_PR_moveBits_76 ?_
      refine va_put (D := D) (ci := 2) (v := .int (iI ((x 12 0) - 1))) (ty := .int) (C := R_PR) (T := T_PR) (N := 12) hx hb hT lays_PR t_PR t_PR_ok n_PR hown hK hP hD hS 0 rfl rfl 6 (by decide) (hT _ tw_85) (fun _ h9 => h9) rfl (by decide +kernel) rfl rfl (Nat.le_of_ble_eq_true rfl) d_PR_moveBits_77 (fun H locs hP hD hS => ?_)
      have hP : va_P D vwCl (prW T q n d (fu (x 0) (x 13 0) (pbt 48 (x 0 (x 13 0)) (x 0 (x 12 0)))) (x 1) (x 2) (x 3) (x 4) (x 11 0) ((x 12 0) - 1) (x 13 0) (x 14 0) (x 15 0) (x 16 0) (x 17 0) (x 18 0) (x 19 0) (x 20 0)) H := hP
      have hD : va_D A (prW T q n d (fu (x 0) (x 13 0) (pbt 48 (x 0 (x 13 0)) (x 0 (x 12 0)))) (x 1) (x 2) (x 3) (x 4) (x 11 0) ((x 12 0) - 1) (x 13 0) (x 14 0) (x 15 0) (x 16 0) (x 17 0) (x 18 0) (x 19 0) (x 20 0)) := hD
      refine lv_aload_n hx hb d_PR_moveBits_80 rfl (lv_at hl 0 rfl) ?_
      refine lv_dup hx hb d_PR_moveBits_81 rfl ?_
      refine va_get (D := D) (ci := 2) (v := .int (iI (x 13 0))) (C := R_PR) (T := T_PR) (N := 12) hx hb hT lays_PR hown hK hP 0 rfl rfl 7 (by decide) (hT _ tw_87) (fun _ h9 => h9) rfl d_PR_moveBits_82 ?_
      refine cx_iconst hx hb d_PR_moveBits_85 ?_
      refine cx_isub hx hb d_PR_moveBits_86 ?_
      refine va_put (D := D) (ci := 2) (v := .int (iI ((x 13 0) - 1))) (ty := .int) (C := R_PR) (T := T_PR) (N := 12) hx hb hT lays_PR t_PR t_PR_ok n_PR hown hK hP hD hS 0 rfl rfl 7 (by decide) (hT _ tw_87) (fun _ h9 => h9) rfl (by decide +kernel) rfl rfl (Nat.le_of_ble_eq_true rfl) d_PR_moveBits_87 (fun H locs hP hD hS => ?_)
      have hP : va_P D vwCl (prW T q n d (fu (x 0) (x 13 0) (pbt 48 (x 0 (x 13 0)) (x 0 (x 12 0)))) (x 1) (x 2) (x 3) (x 4) (x 11 0) ((x 12 0) - 1) ((x 13 0) - 1) (x 14 0) (x 15 0) (x 16 0) (x 17 0) (x 18 0) (x 19 0) (x 20 0)) H := hP
      have hD : va_D A (prW T q n d (fu (x 0) (x 13 0) (pbt 48 (x 0 (x 13 0)) (x 0 (x 12 0)))) (x 1) (x 2) (x 3) (x 4) (x 11 0) ((x 12 0) - 1) ((x 13 0) - 1) (x 14 0) (x 15 0) (x 16 0) (x 17 0) (x 18 0) (x 19 0) (x 20 0)) := hD
      refine cx_iconst hx hb d_PR_moveBits_90 ?_
      exact hret (up (up (up x 0 (fu (x 0) (x 13 0) (pbt 48 (x 0 (x 13 0)) (x 0 (x 12 0))))) 12 (cst ((x 12 0) - 1))) 13 (cst ((x 13 0) - 1))) (pst_of (by unfold bitS; rw [if_pos (by omega)]) (show okX (up (up (up x 0 (fu (x 0) (x 13 0) (pbt 48 (x 0 (x 13 0)) (x 0 (x 12 0))))) 12 (cst ((x 12 0) - 1))) 13 (cst ((x 13 0) - 1))) from ⟨hC, (show okR (x 11 0) ((x 12 0) - 1) ((x 13 0) - 1) (x 14 0) (x 15 0) (x 16 0) (x 17 0) (x 18 0) (x 19 0) (x 20 0) by have h8 := hX.2.1; unfold okR at h8 ⊢; omega), hX.2.2⟩)) hP hD hS d_PR_moveBits_91
    · refine cx_if_ne (tgt := 30) hx hb d_PR_moveBits_25 rfl (by omega) (fun h0 => absurd h0 (by decide)) (fun _ => ?_)
      refine cx_iconst hx hb d_PR_moveBits_28 ?_
      exact hret x (pst_of (by unfold bitS; rw [if_neg (by omega)]) hX) hP hD hS d_PR_moveBits_29
  · refine cx_if_eq (tgt := 28) hx hb d_PR_moveBits_11 rfl (by omega) (fun _ => ?_) (fun h0 => absurd h0 (by decide))
    refine cx_iconst hx hb d_PR_moveBits_28 ?_
    exact hret x (pst_of (by unfold bitS; rw [if_neg (by omega)]) hX) hP hD hS d_PR_moveBits_29

set_option maxHeartbeats 4000000 in
set_option maxRecDepth 100000 in
theorem c_PR_clear (l : Launch) (D : va_G) (T : Nat → ClassId) (sz : Nat) (q : Nat → Nat) (n : Nat) (hn : 400 ≤ n ∧ n ≤ 2000) (d : Int → Int) (x : SX) (hX : okX x) (g : Int) (hg : g = 0 ∨ g = 1) : MI l y_PR_clear (wY y_PR_clear b_PR_clear 4 (some .int)) (rmK 1) D vwCl (tyL T) nwL sz [.ref (q 9), .int (iI (g))] (prW T q n d (x 0) (x 1) (x 2) (x 3) (x 4) (x 11 0) (x 12 0) (x 13 0) (x 14 0) (x 15 0) (x 16 0) (x 17 0) (x 18 0) (x 19 0) (x 20 0)) (fun r u => pst (clrS n g x) r u) (fun u => prX T q n d u) := by
  refine cx_inI (by decide) rfl (Nat.le_of_ble_eq_true rfl) ?_
  intro p e s m below meth cd ls A Q hx hb hml hT hown hret hP hK hD hN hS hA hl
  have hown : s.vm.findClass R_PR = some m.cls := hown
  have hl : lv_has ls 4 [(0, .ref (q 9)), (1, .int (iI (g)))] := hl
  have hC := hX.1
  have hR0 := hX.2.1
  have hF := hX.2.2
  unfold okR at hR0
  refine lv_aload_n hx hb d_PR_clear_0 rfl (lv_at hl 0 rfl) ?_
  refine va_get (D := D) (ci := 2) (v := .ref (q 1)) (C := R_PR) (T := T_PR) (N := 12) hx hb hT lays_PR hown hK hP 0 rfl rfl 0 (by decide) (hT _ tw_78) (fun _ h9 => h9) rfl d_PR_clear_1 ?_
  refine lv_aload_n hx hb d_PR_clear_4 rfl (lv_at hl 0 rfl) ?_
  refine va_get (D := D) (ci := 2) (v := .int (iI (x 13 0))) (C := R_PR) (T := T_PR) (N := 12) hx hb hT lays_PR hown hK hP 0 rfl rfl 7 (by decide) (hT _ tw_87) (fun _ h9 => h9) rfl d_PR_clear_5 ?_
  refine cx_cI (ws2 := fun _ => prW T q n d (x 0) (x 1) (x 2) (x 3) (x 4) (x 11 0) (x 12 0) (x 13 0) (x 14 0) (x 15 0) (x 16 0) (x 17 0) (x 18 0) (x 19 0) (x 20 0)) (cx_rV (q0 := 9) (ci := 3) (rest := []) (As := [.int (iI (x 13 0))]) hx hb hml hown hT hK hN hP hD hl.1 tw_320 k_ST_has (c_ST_has l D T s.heap.size q n (x 0) (x 1) hn (x 13 0) (by omega)) ⟨by decide, by decide⟩ ⟨rfl, rfl⟩ [9, 10] (by decide) rfl rfl rfl rfl rfl (Nat.le_of_ble_eq_true rfl) ⟨Nat.zero_le _, Nat.zero_le _⟩ d_PR_clear_8) hP hD hS hA [9, 10] [0, 1, 2, 3, 4, 5, 6, 7, 8] [0, 1, 2, 3, 4, 5, 6, 7, 8, 9, 10] rfl (wr := [(q 9, .inr (2, [.ref (q 1), .ref (q 3), .ref (q 5), .ref (q 7), .ref (q 10), .int (iI (x 11 0)), .int (iI (x 12 0)), .int (iI (x 13 0)), .int (iI (x 14 0)), .int (iI (x 15 0)), .int (iI (x 16 0)), .int (iI (x 17 0))])), (q 3, .inr (1, [.int (iI (20)), .int (iI (80)), .ref (q 4), .int (iI (x 18 0))])), (q 4, .inl (T 0, 1680, .inl (fun jj : Nat => (iF (x 2)) (jj : Int)))), (q 5, .inr (1, [.int (iI (40)), .int (iI (132)), .ref (q 6), .int (iI (x 19 0))])), (q 6, .inl (T 0, 5412, .inl (fun jj : Nat => (iF (x 3)) (jj : Int)))), (q 7, .inr (1, [.int (iI (20)), .int (iI (80)), .ref (q 8), .int (iI (x 20 0))])), (q 8, .inl (T 0, 1680, .inl (fun jj : Nat => (iF (x 4)) (jj : Int)))), (q 10, .inr (0, [.ref (q 1), .ref (q 11)])), (q 11, .inl (T 0, n, .inl (fun jj : Nat => (iF d) (jj : Int))))]) rfl (by decide) (by decide) (fun _ => rfl) (by decide) (fun r u_ H locs hq8 hP hD hS => ?_)
  rcases hq8 with ⟨rfl, h8⟩ | ⟨rfl, h8⟩
  · refine cx_if_ne (tgt := 16) hx hb d_PR_clear_11 rfl (by omega) (fun _ => ?_) (fun h0 => absurd h0 (by decide))
    refine lv_aload_n hx hb d_PR_clear_16 rfl (lv_at hl 0 rfl) ?_
    refine va_get (D := D) (ci := 2) (v := .int (iI (x 13 0))) (C := R_PR) (T := T_PR) (N := 12) hx hb hT lays_PR hown hK hP 0 rfl rfl 7 (by decide) (hT _ tw_87) (fun _ h9 => h9) rfl d_PR_clear_17 ?_
    refine lv_aload_n hx hb d_PR_clear_20 rfl (lv_at hl 0 rfl) ?_
    refine va_get (D := D) (ci := 2) (v := .int (iI (x 13 0))) (C := R_PR) (T := T_PR) (N := 12) hx hb hT lays_PR hown hK hP 0 rfl rfl 7 (by decide) (hT _ tw_87) (fun _ h9 => h9) rfl d_PR_clear_21 ?_
    refine cx_bipush hx hb d_PR_clear_24 rfl ?_
    refine cx_irem hx hb d_PR_clear_26 (by omega) (by omega) ?_
    refine cx_isub hx hb d_PR_clear_27 ?_
    refine lv_istore_n (lv' := [(2, .int (iI ((x 13 0) - ((x 13 0) % 100)))), (0, .ref (q 9)), (1, .int (iI (g)))]) hx hb d_PR_clear_28 rfl hl (by decide) rfl (fun ls hl => ?_)
    refine lv_aload_n hx hb d_PR_clear_29 rfl (lv_at hl 1 rfl) ?_
    refine va_get (D := D) (ci := 2) (v := .int (iI (x 13 0))) (C := R_PR) (T := T_PR) (N := 12) hx hb hT lays_PR hown hK hP 0 rfl rfl 7 (by decide) (hT _ tw_87) (fun _ h9 => h9) rfl d_PR_clear_30 ?_
    refine lv_istore_n (lv' := [(3, .int (iI (x 13 0))), (2, .int (iI ((x 13 0) - ((x 13 0) % 100)))), (0, .ref (q 9)), (1, .int (iI (g)))]) hx hb d_PR_clear_33 rfl hl (by decide) rfl (fun ls hl => ?_)
    have L1 : ∀ (k_ : Nat) (z : Int) (H : Heap) (locs : List Loc) (ls : Array Slot), (x 13 0 - x 13 0 % 100 - 1 ≤ z ∧ z ≤ x 13 0 ∧ z - (x 13 0 - x 13 0 % 100 - 1) < k_) → (okC (spn (x 0) (x 13 0) (x 13 0 - z) (cst 0)) (spn (x 1) (x 13 0) (x 13 0 - z) (cst 0))) → va_P D vwCl (prW T q n d (spn (x 0) (x 13 0) (x 13 0 - z) (cst 0)) (spn (x 1) (x 13 0) (x 13 0 - z) (cst 0)) (x 2) (x 3) (x 4) (x 11 0) (x 12 0) (x 13 0) (x 14 0) (x 15 0) (x 16 0) (x 17 0) (x 18 0) (x 19 0) (x 20 0)) H → va_D A (prW T q n d (spn (x 0) (x 13 0) (x 13 0 - z) (cst 0)) (spn (x 1) (x 13 0) (x 13 0 - z) (cst 0)) (x 2) (x 3) (x 4) (x 11 0) (x 12 0) (x 13 0) (x 14 0) (x 15 0) (x 16 0) (x 17 0) (x 18 0) (x 19 0) (x 20 0)) → va_S A s.heap H locs → lv_has ls 4 [(3, .int (iI (z))), (2, .int (iI ((x 13 0) - ((x 13 0) % 100)))), (0, .ref (q 9)), (1, .int (iI (g)))] → W p l e (rmK 1) s m ([.ref (q 9), .int (iI (g))] : List Value).toArray below meth cd H locs 0 0 Q (F0 m 34 ls []) := by
      intro k_
      induction k_ with
      | zero => intro z H locs ls hj hC _ _ _ _; exact absurd hj (by omega)
      | succ k_ ih1 =>
        intro z H locs ls hj hC hP hD hS hl
        refine lv_iload_n hx hb d_PR_clear_34 rfl (lv_at hl 0 rfl) ?_
        refine lv_iload_n hx hb d_PR_clear_35 rfl (lv_at hl 1 rfl) ?_
        refine cx_icmp_lt (tgt := 55) hx hb d_PR_clear_36 rfl (by omega) (by omega) (fun h36 => ?_) (fun h36 => ?_)
        · have e9 : x 13 0 - z = x 13 0 % 100 + 1 := by omega
          rw [e9] at hP hD hC
          refine lv_aload_n hx hb d_PR_clear_55 rfl (lv_at hl 2 rfl) ?_
          refine lv_iload_n hx hb d_PR_clear_56 rfl (lv_at hl 1 rfl) ?_
          refine cx_iconst hx hb d_PR_clear_57 ?_
          refine cx_isub hx hb d_PR_clear_58 ?_
          refine va_put (D := D) (ci := 2) (v := .int (iI (((x 13 0) - ((x 13 0) % 100)) - 1))) (ty := .int) (C := R_PR) (T := T_PR) (N := 12) hx hb hT lays_PR t_PR t_PR_ok n_PR hown hK hP hD hS 0 rfl rfl 7 (by decide) (hT _ tw_87) (fun _ h9 => h9) rfl (by decide +kernel) rfl rfl (Nat.le_of_ble_eq_true rfl) d_PR_clear_59 (fun H locs hP hD hS => ?_)
          have hP : va_P D vwCl (prW T q n d (spn (x 0) (x 13 0) (x 13 0 % 100 + 1) (cst 0)) (spn (x 1) (x 13 0) (x 13 0 % 100 + 1) (cst 0)) (x 2) (x 3) (x 4) (x 11 0) (x 12 0) (((x 13 0) - ((x 13 0) % 100)) - 1) (x 14 0) (x 15 0) (x 16 0) (x 17 0) (x 18 0) (x 19 0) (x 20 0)) H := hP
          have hD : va_D A (prW T q n d (spn (x 0) (x 13 0) (x 13 0 % 100 + 1) (cst 0)) (spn (x 1) (x 13 0) (x 13 0 % 100 + 1) (cst 0)) (x 2) (x 3) (x 4) (x 11 0) (x 12 0) (((x 13 0) - ((x 13 0) % 100)) - 1) (x 14 0) (x 15 0) (x 16 0) (x 17 0) (x 18 0) (x 19 0) (x 20 0)) := hD
          refine lv_iload_n hx hb d_PR_clear_62 rfl (lv_at hl 3 rfl) ?_
          refine cx_if_eq (tgt := 70) hx hb d_PR_clear_63 rfl (by omega) (fun h63 => ?_) (fun h63 => ?_)
          · refine cx_iconst hx hb d_PR_clear_70 ?_
            exact hret (up (up (up x 0 (spn (x 0) (x 13 0) (x 13 0 % 100 + 1) (cst 0))) 1 (spn (x 1) (x 13 0) (x 13 0 % 100 + 1) (cst 0))) 13 (cst (((x 13 0) - ((x 13 0) % 100)) - 1))) (pst_of (by unfold clrS gof; rw [if_pos (by omega), if_pos h63]) (show okX (up (up (up x 0 (spn (x 0) (x 13 0) (x 13 0 % 100 + 1) (cst 0))) 1 (spn (x 1) (x 13 0) (x 13 0 % 100 + 1) (cst 0))) 13 (cst (((x 13 0) - ((x 13 0) % 100)) - 1))) from ⟨hC, (show okR (x 11 0) (x 12 0) (((x 13 0) - ((x 13 0) % 100)) - 1) (x 14 0) (x 15 0) (x 16 0) (x 17 0) (x 18 0) (x 19 0) (x 20 0) by have h8 := hX.2.1; unfold okR at h8 ⊢; omega), hX.2.2⟩)) hP hD hS d_PR_clear_71
          · refine lv_aload_n hx hb d_PR_clear_66 rfl (lv_at hl 2 rfl) ?_
            refine cx_cV (ws2 := fun _ => prW T q n d ((goS (up (up (up x 0 (spn (x 0) (x 13 0) (x 13 0 % 100 + 1) (cst 0))) 1 (spn (x 1) (x 13 0) (x 13 0 % 100 + 1) (cst 0))) 13 (cst (((x 13 0) - ((x 13 0) % 100)) - 1)))) 0) ((goS (up (up (up x 0 (spn (x 0) (x 13 0) (x 13 0 % 100 + 1) (cst 0))) 1 (spn (x 1) (x 13 0) (x 13 0 % 100 + 1) (cst 0))) 13 (cst (((x 13 0) - ((x 13 0) % 100)) - 1)))) 1) ((goS (up (up (up x 0 (spn (x 0) (x 13 0) (x 13 0 % 100 + 1) (cst 0))) 1 (spn (x 1) (x 13 0) (x 13 0 % 100 + 1) (cst 0))) 13 (cst (((x 13 0) - ((x 13 0) % 100)) - 1)))) 2) ((goS (up (up (up x 0 (spn (x 0) (x 13 0) (x 13 0 % 100 + 1) (cst 0))) 1 (spn (x 1) (x 13 0) (x 13 0 % 100 + 1) (cst 0))) 13 (cst (((x 13 0) - ((x 13 0) % 100)) - 1)))) 3) ((goS (up (up (up x 0 (spn (x 0) (x 13 0) (x 13 0 % 100 + 1) (cst 0))) 1 (spn (x 1) (x 13 0) (x 13 0 % 100 + 1) (cst 0))) 13 (cst (((x 13 0) - ((x 13 0) % 100)) - 1)))) 4) ((goS (up (up (up x 0 (spn (x 0) (x 13 0) (x 13 0 % 100 + 1) (cst 0))) 1 (spn (x 1) (x 13 0) (x 13 0 % 100 + 1) (cst 0))) 13 (cst (((x 13 0) - ((x 13 0) % 100)) - 1)))) 11 0) ((goS (up (up (up x 0 (spn (x 0) (x 13 0) (x 13 0 % 100 + 1) (cst 0))) 1 (spn (x 1) (x 13 0) (x 13 0 % 100 + 1) (cst 0))) 13 (cst (((x 13 0) - ((x 13 0) % 100)) - 1)))) 12 0) ((goS (up (up (up x 0 (spn (x 0) (x 13 0) (x 13 0 % 100 + 1) (cst 0))) 1 (spn (x 1) (x 13 0) (x 13 0 % 100 + 1) (cst 0))) 13 (cst (((x 13 0) - ((x 13 0) % 100)) - 1)))) 13 0) ((goS (up (up (up x 0 (spn (x 0) (x 13 0) (x 13 0 % 100 + 1) (cst 0))) 1 (spn (x 1) (x 13 0) (x 13 0 % 100 + 1) (cst 0))) 13 (cst (((x 13 0) - ((x 13 0) % 100)) - 1)))) 14 0) ((goS (up (up (up x 0 (spn (x 0) (x 13 0) (x 13 0 % 100 + 1) (cst 0))) 1 (spn (x 1) (x 13 0) (x 13 0 % 100 + 1) (cst 0))) 13 (cst (((x 13 0) - ((x 13 0) % 100)) - 1)))) 15 0) ((goS (up (up (up x 0 (spn (x 0) (x 13 0) (x 13 0 % 100 + 1) (cst 0))) 1 (spn (x 1) (x 13 0) (x 13 0 % 100 + 1) (cst 0))) 13 (cst (((x 13 0) - ((x 13 0) % 100)) - 1)))) 16 0) ((goS (up (up (up x 0 (spn (x 0) (x 13 0) (x 13 0 % 100 + 1) (cst 0))) 1 (spn (x 1) (x 13 0) (x 13 0 % 100 + 1) (cst 0))) 13 (cst (((x 13 0) - ((x 13 0) % 100)) - 1)))) 17 0) ((goS (up (up (up x 0 (spn (x 0) (x 13 0) (x 13 0 % 100 + 1) (cst 0))) 1 (spn (x 1) (x 13 0) (x 13 0 % 100 + 1) (cst 0))) 13 (cst (((x 13 0) - ((x 13 0) % 100)) - 1)))) 18 0) ((goS (up (up (up x 0 (spn (x 0) (x 13 0) (x 13 0 % 100 + 1) (cst 0))) 1 (spn (x 1) (x 13 0) (x 13 0 % 100 + 1) (cst 0))) 13 (cst (((x 13 0) - ((x 13 0) % 100)) - 1)))) 19 0) ((goS (up (up (up x 0 (spn (x 0) (x 13 0) (x 13 0 % 100 + 1) (cst 0))) 1 (spn (x 1) (x 13 0) (x 13 0 % 100 + 1) (cst 0))) 13 (cst (((x 13 0) - ((x 13 0) % 100)) - 1)))) 20 0)) (cx_rV (q0 := 0) (ci := 2) (rest := []) (As := []) hx hb hml hown hT hK hN hP hD hl.1 tw_475 k_PR_goThere (c_PR_goThere l D T H.size q n hn d (up (up (up x 0 (spn (x 0) (x 13 0) (x 13 0 % 100 + 1) (cst 0))) 1 (spn (x 1) (x 13 0) (x 13 0 % 100 + 1) (cst 0))) 13 (cst (((x 13 0) - ((x 13 0) % 100)) - 1))) (show okX (up (up (up x 0 (spn (x 0) (x 13 0) (x 13 0 % 100 + 1) (cst 0))) 1 (spn (x 1) (x 13 0) (x 13 0 % 100 + 1) (cst 0))) 13 (cst (((x 13 0) - ((x 13 0) % 100)) - 1))) from ⟨hC, (show okR (x 11 0) (x 12 0) (((x 13 0) - ((x 13 0) % 100)) - 1) (x 14 0) (x 15 0) (x 16 0) (x 17 0) (x 18 0) (x 19 0) (x 20 0) by have h8 := hX.2.1; unfold okR at h8 ⊢; omega), hX.2.2⟩)) ⟨by decide, by decide⟩ ⟨rfl, rfl⟩ [0, 1, 2, 3, 4, 5, 6, 7, 8, 9, 10] (by decide) rfl rfl rfl rfl rfl (Nat.le_of_ble_eq_true rfl) ⟨Nat.zero_le _, Nat.zero_le _⟩ d_PR_clear_67) hP hD hS hA [0, 1, 2, 3, 4, 5, 6, 7, 8, 9, 10] [] [0, 1, 2, 3, 4, 5, 6, 7, 8, 9, 10] rfl (wr := []) rfl (by decide) (by decide) (fun _ => rfl) (by decide) (fun u_ H locs hq67 hP hD hS => ?_)
            refine cx_iconst hx hb d_PR_clear_70 ?_
            exact hret ((goS (up (up (up x 0 (spn (x 0) (x 13 0) (x 13 0 % 100 + 1) (cst 0))) 1 (spn (x 1) (x 13 0) (x 13 0 % 100 + 1) (cst 0))) 13 (cst (((x 13 0) - ((x 13 0) % 100)) - 1))))) (pst_of (by unfold clrS gof; rw [if_pos (by omega), if_neg h63]) (goS_ok (show okX (up (up (up x 0 (spn (x 0) (x 13 0) (x 13 0 % 100 + 1) (cst 0))) 1 (spn (x 1) (x 13 0) (x 13 0 % 100 + 1) (cst 0))) 13 (cst (((x 13 0) - ((x 13 0) % 100)) - 1))) from ⟨hC, (show okR (x 11 0) (x 12 0) (((x 13 0) - ((x 13 0) % 100)) - 1) (x 14 0) (x 15 0) (x 16 0) (x 17 0) (x 18 0) (x 19 0) (x 20 0) by have h8 := hX.2.1; unfold okR at h8 ⊢; omega), hX.2.2⟩))) hP hD hS d_PR_clear_71
        · refine lv_aload_n hx hb d_PR_clear_39 rfl (lv_at hl 2 rfl) ?_
          refine va_get (D := D) (ci := 2) (v := .ref (q 1)) (C := R_PR) (T := T_PR) (N := 12) hx hb hT lays_PR hown hK hP 0 rfl rfl 0 (by decide) (hT _ tw_78) (fun _ h9 => h9) rfl d_PR_clear_40 ?_
          refine lv_iload_n hx hb d_PR_clear_43 rfl (lv_at hl 0 rfl) ?_
          refine cx_iconst hx hb d_PR_clear_44 ?_
          refine cx_iconst hx hb d_PR_clear_45 ?_
          refine cx_cV (ws2 := fun _ => prW T q n d (fu (spn (x 0) (x 13 0) (x 13 0 - z) (cst 0)) (z) (0)) (fu (spn (x 1) (x 13 0) (x 13 0 - z) (cst 0)) (z) (0)) (x 2) (x 3) (x 4) (x 11 0) (x 12 0) (x 13 0) (x 14 0) (x 15 0) (x 16 0) (x 17 0) (x 18 0) (x 19 0) (x 20 0)) (cx_rV (q0 := 9) (ci := 3) (rest := []) (As := [.int (iI (z)), .int (iI (0)), .int (iI (0))]) hx hb hml hown hT hK hN hP hD hl.1 tw_474 k_ST_place (c_ST_place l D T H.size q n (spn (x 0) (x 13 0) (x 13 0 - z) (cst 0)) (spn (x 1) (x 13 0) (x 13 0 - z) (cst 0)) hn z (by omega) 0 (by omega) 0 (by omega)) ⟨by decide, by decide⟩ ⟨rfl, rfl⟩ [9, 10] (by decide) rfl rfl rfl rfl rfl (Nat.le_of_ble_eq_true rfl) ⟨Nat.zero_le _, Nat.zero_le _⟩ d_PR_clear_46) hP hD hS hA [9, 10] [0, 1, 2, 3, 4, 5, 6, 7, 8] [0, 1, 2, 3, 4, 5, 6, 7, 8, 9, 10] rfl (wr := [(q 9, .inr (2, [.ref (q 1), .ref (q 3), .ref (q 5), .ref (q 7), .ref (q 10), .int (iI (x 11 0)), .int (iI (x 12 0)), .int (iI (x 13 0)), .int (iI (x 14 0)), .int (iI (x 15 0)), .int (iI (x 16 0)), .int (iI (x 17 0))])), (q 3, .inr (1, [.int (iI (20)), .int (iI (80)), .ref (q 4), .int (iI (x 18 0))])), (q 4, .inl (T 0, 1680, .inl (fun jj : Nat => (iF (x 2)) (jj : Int)))), (q 5, .inr (1, [.int (iI (40)), .int (iI (132)), .ref (q 6), .int (iI (x 19 0))])), (q 6, .inl (T 0, 5412, .inl (fun jj : Nat => (iF (x 3)) (jj : Int)))), (q 7, .inr (1, [.int (iI (20)), .int (iI (80)), .ref (q 8), .int (iI (x 20 0))])), (q 8, .inl (T 0, 1680, .inl (fun jj : Nat => (iF (x 4)) (jj : Int)))), (q 10, .inr (0, [.ref (q 1), .ref (q 11)])), (q 11, .inl (T 0, n, .inl (fun jj : Nat => (iF d) (jj : Int))))]) rfl (by decide) (by decide) (fun _ => rfl) (by decide) (fun u_ H locs hq46 hP hD hS => ?_)
          have hC : okC (fu (spn (x 0) (x 13 0) (x 13 0 - z) (cst 0)) (z) (0)) (fu (spn (x 1) (x 13 0) (x 13 0 - z) (cst 0)) (z) (0)) := okC_mk (okC_fu hC (by omega)) (by omega)
          refine cx_iinc (k := 0) (lv' := [(3, .int (iI (z + (-1)))), (2, .int (iI ((x 13 0) - ((x 13 0) % 100)))), (0, .ref (q 9)), (1, .int (iI (g)))]) hx hb d_PR_clear_49 hl rfl (by decide) rfl (fun ls hl => ?_)
          refine lv_goto (tgt := 34) hx hb d_PR_clear_52 rfl ?_
          rw [spn_zs (by omega), spn_zs (by omega)] at hP hD hC
          exact ih1 (z + -1) _ _ _ (by omega) hC hP hD hS (lv_sub hl [0, 1, 2, 3] rfl)
    rw [← spn_z (x 0) (x 13 0) (cst 0), ← spn_z (x 1) (x 13 0) (cst 0)] at hP hD
    exact L1 2001 (x 13 0) _ _ _ (by omega) (by rw [spn_z, spn_z]; exact hC) hP hD hS (lv_sub hl [0, 1, 2, 3] rfl)
  · refine cx_if_ne (tgt := 16) hx hb d_PR_clear_11 rfl (by omega) (fun h0 => absurd h0 (by decide)) (fun _ => ?_)
    refine cx_iconst hx hb d_PR_clear_14 ?_
    exact hret x (pst_of (by unfold clrS; rw [if_neg (by omega)]) hX) hP hD hS d_PR_clear_15

set_option maxHeartbeats 4000000 in
set_option maxRecDepth 100000 in
theorem c_PR_move (l : Launch) (D : va_G) (T : Nat → ClassId) (sz : Nat) (q : Nat → Nat) (n : Nat) (hn : 400 ≤ n ∧ n ≤ 2000) (d : Int → Int) (x : SX) (hX : okX x) : MI l y_PR_move (wY y_PR_move b_PR_move 3 (some .int)) (rmK 2) D vwCl (tyL T) nwL sz [.ref (q 9)] (prW T q n d (x 0) (x 1) (x 2) (x 3) (x 4) (x 11 0) (x 12 0) (x 13 0) (x 14 0) (x 15 0) (x 16 0) (x 17 0) (x 18 0) (x 19 0) (x 20 0)) (fun r u => pst (movS n x) r u) (fun u => prX T q n d u) := by
  refine cx_inI (by decide) rfl (Nat.le_of_ble_eq_true rfl) ?_
  intro p e s m below meth cd ls A Q hx hb hml hT hown hret hP hK hD hN hS hA hl
  have hown : s.vm.findClass R_PR = some m.cls := hown
  have hl : lv_has ls 3 [(0, .ref (q 9))] := hl
  have hC := hX.1
  have hR0 := hX.2.1
  have hF := hX.2.2
  unfold okR at hR0
  refine lv_aload_n hx hb d_PR_move_0 rfl (lv_at hl 0 rfl) ?_
  refine va_get (D := D) (ci := 2) (v := .ref (q 1)) (C := R_PR) (T := T_PR) (N := 12) hx hb hT lays_PR hown hK hP 0 rfl rfl 0 (by decide) (hT _ tw_78) (fun _ h9 => h9) rfl d_PR_move_1 ?_
  refine lv_aload_n hx hb d_PR_move_4 rfl (lv_at hl 0 rfl) ?_
  refine va_get (D := D) (ci := 2) (v := .int (iI (x 12 0))) (C := R_PR) (T := T_PR) (N := 12) hx hb hT lays_PR hown hK hP 0 rfl rfl 6 (by decide) (hT _ tw_85) (fun _ h9 => h9) rfl d_PR_move_5 ?_
  refine lv_aload_n hx hb d_PR_move_8 rfl (lv_at hl 0 rfl) ?_
  refine va_get (D := D) (ci := 2) (v := .int (iI (x 13 0))) (C := R_PR) (T := T_PR) (N := 12) hx hb hT lays_PR hown hK hP 0 rfl rfl 7 (by decide) (hT _ tw_87) (fun _ h9 => h9) rfl d_PR_move_9 ?_
  refine cx_cI (ws2 := fun _ => prW T q n d (x 0) (x 1) (x 2) (x 3) (x 4) (x 11 0) (x 12 0) (x 13 0) (x 14 0) (x 15 0) (x 16 0) (x 17 0) (x 18 0) (x 19 0) (x 20 0)) (cx_rV (q0 := 9) (ci := 3) (rest := []) (As := [.int (iI (x 12 0)), .int (iI (x 13 0))]) hx hb hml hown hT hK hN hP hD hl.1 tw_420 k_ST_commonLength (c_ST_commonLength l D T s.heap.size q n (x 0) (x 1) hn hC (x 12 0) (x 13 0) (by omega) (by omega)) ⟨by decide, by decide⟩ ⟨rfl, rfl⟩ [9, 10] (by decide) rfl rfl rfl rfl rfl (Nat.le_of_ble_eq_true rfl) ⟨Nat.zero_le _, Nat.zero_le _⟩ d_PR_move_12) hP hD hS hA [9, 10] [0, 1, 2, 3, 4, 5, 6, 7, 8] [0, 1, 2, 3, 4, 5, 6, 7, 8, 9, 10] rfl (wr := [(q 9, .inr (2, [.ref (q 1), .ref (q 3), .ref (q 5), .ref (q 7), .ref (q 10), .int (iI (x 11 0)), .int (iI (x 12 0)), .int (iI (x 13 0)), .int (iI (x 14 0)), .int (iI (x 15 0)), .int (iI (x 16 0)), .int (iI (x 17 0))])), (q 3, .inr (1, [.int (iI (20)), .int (iI (80)), .ref (q 4), .int (iI (x 18 0))])), (q 4, .inl (T 0, 1680, .inl (fun jj : Nat => (iF (x 2)) (jj : Int)))), (q 5, .inr (1, [.int (iI (40)), .int (iI (132)), .ref (q 6), .int (iI (x 19 0))])), (q 6, .inl (T 0, 5412, .inl (fun jj : Nat => (iF (x 3)) (jj : Int)))), (q 7, .inr (1, [.int (iI (20)), .int (iI (80)), .ref (q 8), .int (iI (x 20 0))])), (q 8, .inl (T 0, 1680, .inl (fun jj : Nat => (iF (x 4)) (jj : Int)))), (q 10, .inr (0, [.ref (q 1), .ref (q 11)])), (q 11, .inl (T 0, n, .inl (fun jj : Nat => (iF d) (jj : Int))))]) rfl (by decide) (by decide) (fun _ => rfl) (by decide) (fun r u_ H locs hq12 hP hD hS => ?_)
  subst hq12
  refine lv_istore_n (lv' := [(1, .int (iI (flr (cmn n (x 1) (x 12 0) (x 13 0) 2001 1)))), (0, .ref (q 9))]) hx hb d_PR_move_15 rfl hl (by decide) rfl (fun ls hl => ?_)
  obtain ⟨k, hk⟩ : ∃ z, z = cmn n (x 1) (x 12 0) (x 13 0) 2001 1 := ⟨_, rfl⟩
  rw [← hk] at hl
  have hk1 := cmn_in hk
  have hk2 := flr_in k (by omega)
  refine lv_iload_n hx hb d_PR_move_16 rfl (lv_at hl 0 rfl) ?_
  refine cx_iconst hx hb d_PR_move_17 ?_
  refine cx_icmp_ne (tgt := 23) hx hb d_PR_move_18 rfl (by omega) (by omega) (fun h18 => ?_) (fun h18 => ?_)
  · have hk3 : flr k = k := flr_pos (by omega)
    rw [hk3] at hl h18
    refine cx_iconst hx hb d_PR_move_23 ?_
    refine lv_istore_n (lv' := [(2, .int (iI (0))), (1, .int (iI (k))), (0, .ref (q 9))]) hx hb d_PR_move_24 rfl hl (by decide) rfl (fun ls hl => ?_)
    have L1 : ∀ (k_ : Nat) (j : Int) (H : Heap) (locs : List Loc) (ls : Array Slot), (0 ≤ j ∧ j ≤ k ∧ k - j < k_) → (okC (mvN (x 0) (x 12 0) (x 13 0) (j).toNat) (x 1)) → va_P D vwCl (prW T q n d (mvN (x 0) (x 12 0) (x 13 0) (j).toNat) (x 1) (x 2) (x 3) (x 4) (x 11 0) (x 12 0) (x 13 0) (x 14 0) (x 15 0) (x 16 0) (x 17 0) (x 18 0) (x 19 0) (x 20 0)) H → va_D A (prW T q n d (mvN (x 0) (x 12 0) (x 13 0) (j).toNat) (x 1) (x 2) (x 3) (x 4) (x 11 0) (x 12 0) (x 13 0) (x 14 0) (x 15 0) (x 16 0) (x 17 0) (x 18 0) (x 19 0) (x 20 0)) → va_S A s.heap H locs → lv_has ls 3 [(2, .int (iI (j))), (1, .int (iI (k))), (0, .ref (q 9))] → W p l e (rmK 2) s m ([.ref (q 9)] : List Value).toArray below meth cd H locs 0 0 Q (F0 m 25 ls []) := by
      intro k_
      induction k_ with
      | zero => intro j H locs ls hj hC _ _ _ _; exact absurd hj (by omega)
      | succ k_ ih1 =>
        intro j H locs ls hj hC hP hD hS hl
        refine lv_iload_n hx hb d_PR_move_25 rfl (lv_at hl 0 rfl) ?_
        refine lv_iload_n hx hb d_PR_move_26 rfl (lv_at hl 1 rfl) ?_
        refine cx_icmp_ge (tgt := 62) hx hb d_PR_move_27 rfl (by omega) (by omega) (fun h27 => ?_) (fun h27 => ?_)
        · obtain rfl : j = k := by omega
          refine lv_aload_n hx hb d_PR_move_62 rfl (lv_at hl 2 rfl) ?_
          refine lv_dup hx hb d_PR_move_63 rfl ?_
          refine va_get (D := D) (ci := 2) (v := .int (iI (x 12 0))) (C := R_PR) (T := T_PR) (N := 12) hx hb hT lays_PR hown hK hP 0 rfl rfl 6 (by decide) (hT _ tw_85) (fun _ h9 => h9) rfl d_PR_move_64 ?_
          refine lv_iload_n hx hb d_PR_move_67 rfl (lv_at hl 1 rfl) ?_
          refine cx_isub hx hb d_PR_move_68 ?_
          refine va_put (D := D) (ci := 2) (v := .int (iI ((x 12 0) - j))) (ty := .int) (C := R_PR) (T := T_PR) (N := 12) hx hb hT lays_PR t_PR t_PR_ok n_PR hown hK hP hD hS 0 rfl rfl 6 (by decide) (hT _ tw_85) (fun _ h9 => h9) rfl (by decide +kernel) rfl rfl (Nat.le_of_ble_eq_true rfl) d_PR_move_69 (fun H locs hP hD hS => ?_)
          have hP : va_P D vwCl (prW T q n d (mvN (x 0) (x 12 0) (x 13 0) (j).toNat) (x 1) (x 2) (x 3) (x 4) (x 11 0) ((x 12 0) - j) (x 13 0) (x 14 0) (x 15 0) (x 16 0) (x 17 0) (x 18 0) (x 19 0) (x 20 0)) H := hP
          have hD : va_D A (prW T q n d (mvN (x 0) (x 12 0) (x 13 0) (j).toNat) (x 1) (x 2) (x 3) (x 4) (x 11 0) ((x 12 0) - j) (x 13 0) (x 14 0) (x 15 0) (x 16 0) (x 17 0) (x 18 0) (x 19 0) (x 20 0)) := hD
          refine lv_aload_n hx hb d_PR_move_72 rfl (lv_at hl 2 rfl) ?_
          refine lv_dup hx hb d_PR_move_73 rfl ?_
          refine va_get (D := D) (ci := 2) (v := .int (iI (x 13 0))) (C := R_PR) (T := T_PR) (N := 12) hx hb hT lays_PR hown hK hP 0 rfl rfl 7 (by decide) (hT _ tw_87) (fun _ h9 => h9) rfl d_PR_move_74 ?_
          refine lv_iload_n hx hb d_PR_move_77 rfl (lv_at hl 1 rfl) ?_
          refine cx_isub hx hb d_PR_move_78 ?_
          refine va_put (D := D) (ci := 2) (v := .int (iI ((x 13 0) - j))) (ty := .int) (C := R_PR) (T := T_PR) (N := 12) hx hb hT lays_PR t_PR t_PR_ok n_PR hown hK hP hD hS 0 rfl rfl 7 (by decide) (hT _ tw_87) (fun _ h9 => h9) rfl (by decide +kernel) rfl rfl (Nat.le_of_ble_eq_true rfl) d_PR_move_79 (fun H locs hP hD hS => ?_)
          have hP : va_P D vwCl (prW T q n d (mvN (x 0) (x 12 0) (x 13 0) (j).toNat) (x 1) (x 2) (x 3) (x 4) (x 11 0) ((x 12 0) - j) ((x 13 0) - j) (x 14 0) (x 15 0) (x 16 0) (x 17 0) (x 18 0) (x 19 0) (x 20 0)) H := hP
          have hD : va_D A (prW T q n d (mvN (x 0) (x 12 0) (x 13 0) (j).toNat) (x 1) (x 2) (x 3) (x 4) (x 11 0) ((x 12 0) - j) ((x 13 0) - j) (x 14 0) (x 15 0) (x 16 0) (x 17 0) (x 18 0) (x 19 0) (x 20 0)) := hD
          refine cx_iconst hx hb d_PR_move_82 ?_
          exact hret (up (up (up x 0 (mvN (x 0) (x 12 0) (x 13 0) (j).toNat)) 12 (cst ((x 12 0) - j))) 13 (cst ((x 13 0) - j))) (pst_of (by unfold movS movK; rw [← hk, if_neg (by omega)]) (show okX (up (up (up x 0 (mvN (x 0) (x 12 0) (x 13 0) (j).toNat)) 12 (cst ((x 12 0) - j))) 13 (cst ((x 13 0) - j))) from ⟨hC, (show okR (x 11 0) ((x 12 0) - j) ((x 13 0) - j) (x 14 0) (x 15 0) (x 16 0) (x 17 0) (x 18 0) (x 19 0) (x 20 0) by have h8 := hX.2.1; unfold okR at h8 ⊢; omega), hX.2.2⟩)) hP hD hS d_PR_move_83
        · have hc9 := hC.1 (x 12 0 - j)
          refine lv_aload_n hx hb d_PR_move_30 rfl (lv_at hl 2 rfl) ?_
          refine va_get (D := D) (ci := 2) (v := .ref (q 1)) (C := R_PR) (T := T_PR) (N := 12) hx hb hT lays_PR hown hK hP 0 rfl rfl 0 (by decide) (hT _ tw_78) (fun _ h9 => h9) rfl d_PR_move_31 ?_
          refine lv_aload_n hx hb d_PR_move_34 rfl (lv_at hl 2 rfl) ?_
          refine va_get (D := D) (ci := 2) (v := .int (iI (x 13 0))) (C := R_PR) (T := T_PR) (N := 12) hx hb hT lays_PR hown hK hP 0 rfl rfl 7 (by decide) (hT _ tw_87) (fun _ h9 => h9) rfl d_PR_move_35 ?_
          refine lv_iload_n hx hb d_PR_move_38 rfl (lv_at hl 0 rfl) ?_
          refine cx_isub hx hb d_PR_move_39 ?_
          refine lv_aload_n hx hb d_PR_move_40 rfl (lv_at hl 2 rfl) ?_
          refine va_get (D := D) (ci := 2) (v := .ref (q 1)) (C := R_PR) (T := T_PR) (N := 12) hx hb hT lays_PR hown hK hP 0 rfl rfl 0 (by decide) (hT _ tw_78) (fun _ h9 => h9) rfl d_PR_move_41 ?_
          refine lv_aload_n hx hb d_PR_move_44 rfl (lv_at hl 2 rfl) ?_
          refine va_get (D := D) (ci := 2) (v := .int (iI (x 12 0))) (C := R_PR) (T := T_PR) (N := 12) hx hb hT lays_PR hown hK hP 0 rfl rfl 6 (by decide) (hT _ tw_85) (fun _ h9 => h9) rfl d_PR_move_45 ?_
          refine lv_iload_n hx hb d_PR_move_48 rfl (lv_at hl 0 rfl) ?_
          refine cx_isub hx hb d_PR_move_49 ?_
          refine cx_cI (ws2 := fun _ => prW T q n d (mvN (x 0) (x 12 0) (x 13 0) (j).toNat) (x 1) (x 2) (x 3) (x 4) (x 11 0) (x 12 0) (x 13 0) (x 14 0) (x 15 0) (x 16 0) (x 17 0) (x 18 0) (x 19 0) (x 20 0)) (cx_rV (q0 := 9) (ci := 3) (rest := [.int (iI ((x 13 0) - j)), .ref (q 1)]) (As := [.int (iI ((x 12 0) - j))]) hx hb hml hown hT hK hN hP hD hl.1 tw_322 k_ST_character (c_ST_character l D T H.size q n (mvN (x 0) (x 12 0) (x 13 0) (j).toNat) (x 1) hn hC ((x 12 0) - j) (by omega)) ⟨by decide, by decide⟩ ⟨rfl, rfl⟩ [9, 10] (by decide) rfl rfl rfl rfl rfl (Nat.le_of_ble_eq_true rfl) ⟨Nat.zero_le _, Nat.zero_le _⟩ d_PR_move_50) hP hD hS hA [9, 10] [0, 1, 2, 3, 4, 5, 6, 7, 8] [0, 1, 2, 3, 4, 5, 6, 7, 8, 9, 10] rfl (wr := [(q 9, .inr (2, [.ref (q 1), .ref (q 3), .ref (q 5), .ref (q 7), .ref (q 10), .int (iI (x 11 0)), .int (iI (x 12 0)), .int (iI (x 13 0)), .int (iI (x 14 0)), .int (iI (x 15 0)), .int (iI (x 16 0)), .int (iI (x 17 0))])), (q 3, .inr (1, [.int (iI (20)), .int (iI (80)), .ref (q 4), .int (iI (x 18 0))])), (q 4, .inl (T 0, 1680, .inl (fun jj : Nat => (iF (x 2)) (jj : Int)))), (q 5, .inr (1, [.int (iI (40)), .int (iI (132)), .ref (q 6), .int (iI (x 19 0))])), (q 6, .inl (T 0, 5412, .inl (fun jj : Nat => (iF (x 3)) (jj : Int)))), (q 7, .inr (1, [.int (iI (20)), .int (iI (80)), .ref (q 8), .int (iI (x 20 0))])), (q 8, .inl (T 0, 1680, .inl (fun jj : Nat => (iF (x 4)) (jj : Int)))), (q 10, .inr (0, [.ref (q 1), .ref (q 11)])), (q 11, .inl (T 0, n, .inl (fun jj : Nat => (iF d) (jj : Int))))]) rfl (by decide) (by decide) (fun _ => rfl) (by decide) (fun r u_ H locs hq50 hP hD hS => ?_)
          subst hq50
          refine cx_cV (ws2 := fun _ => prW T q n d (fu (mvN (x 0) (x 12 0) (x 13 0) (j).toNat) ((x 13 0) - j) ((mvN (x 0) (x 12 0) (x 13 0) (j).toNat) ((x 12 0) - j))) (x 1) (x 2) (x 3) (x 4) (x 11 0) (x 12 0) (x 13 0) (x 14 0) (x 15 0) (x 16 0) (x 17 0) (x 18 0) (x 19 0) (x 20 0)) (cx_rV (q0 := 9) (ci := 3) (rest := []) (As := [.int (iI ((x 13 0) - j)), .int (iI ((mvN (x 0) (x 12 0) (x 13 0) (j).toNat) ((x 12 0) - j)))]) hx hb hml hown hT hK hN hP hD hl.1 tw_427 k_ST_write (c_ST_write l D T H.size q n (mvN (x 0) (x 12 0) (x 13 0) (j).toNat) (x 1) hn hC ((x 13 0) - j) (by omega) ((mvN (x 0) (x 12 0) (x 13 0) (j).toNat) ((x 12 0) - j)) (by omega)) ⟨by decide, by decide⟩ ⟨rfl, rfl⟩ [9, 10] (by decide) rfl rfl rfl rfl rfl (Nat.le_of_ble_eq_true rfl) ⟨Nat.zero_le _, Nat.zero_le _⟩ d_PR_move_53) hP hD hS hA [9, 10] [0, 1, 2, 3, 4, 5, 6, 7, 8] [0, 1, 2, 3, 4, 5, 6, 7, 8, 9, 10] rfl (wr := [(q 9, .inr (2, [.ref (q 1), .ref (q 3), .ref (q 5), .ref (q 7), .ref (q 10), .int (iI (x 11 0)), .int (iI (x 12 0)), .int (iI (x 13 0)), .int (iI (x 14 0)), .int (iI (x 15 0)), .int (iI (x 16 0)), .int (iI (x 17 0))])), (q 3, .inr (1, [.int (iI (20)), .int (iI (80)), .ref (q 4), .int (iI (x 18 0))])), (q 4, .inl (T 0, 1680, .inl (fun jj : Nat => (iF (x 2)) (jj : Int)))), (q 5, .inr (1, [.int (iI (40)), .int (iI (132)), .ref (q 6), .int (iI (x 19 0))])), (q 6, .inl (T 0, 5412, .inl (fun jj : Nat => (iF (x 3)) (jj : Int)))), (q 7, .inr (1, [.int (iI (20)), .int (iI (80)), .ref (q 8), .int (iI (x 20 0))])), (q 8, .inl (T 0, 1680, .inl (fun jj : Nat => (iF (x 4)) (jj : Int)))), (q 10, .inr (0, [.ref (q 1), .ref (q 11)])), (q 11, .inl (T 0, n, .inl (fun jj : Nat => (iF d) (jj : Int))))]) rfl (by decide) (by decide) (fun _ => rfl) (by decide) (fun u_ H locs hq53 hP hD hS => ?_)
          have hC : okC (fu (mvN (x 0) (x 12 0) (x 13 0) (j).toNat) ((x 13 0) - j) ((mvN (x 0) (x 12 0) (x 13 0) (j).toNat) ((x 12 0) - j))) (x 1) := okC_fu hC (by omega)
          refine cx_iinc (k := 0) (lv' := [(2, .int (iI (j + 1))), (1, .int (iI (k))), (0, .ref (q 9))]) hx hb d_PR_move_56 hl rfl (by decide) rfl (fun ls hl => ?_)
          refine lv_goto (tgt := 25) hx hb d_PR_move_59 rfl ?_
          rw [mvN_step (by omega)] at hP hD hC
          exact ih1 (j + 1) _ _ _ (by omega) hC hP hD hS (lv_sub hl [0, 1, 2] rfl)
    exact L1 2001 0 _ _ _ (by omega) hC hP hD hS (lv_sub hl [0, 1, 2] rfl)
  · refine cx_iconst hx hb d_PR_move_21 ?_
    exact hret x (pst_of (by unfold movS movK; rw [if_pos (by rw [← hk]; unfold flr at h18; omega)]) hX) hP hD hS d_PR_move_22

set_option maxHeartbeats 4000000 in
set_option maxRecDepth 100000 in
theorem c_PR_load (l : Launch) (D : va_G) (T : Nat → ClassId) (sz : Nat) (q : Nat → Nat) (n : Nat) (hn : 400 ≤ n ∧ n ≤ 2000) (d : Int → Int) (x : SX) (hX : okX x) : MI l y_PR_load (wY y_PR_load b_PR_load 2 (some .int)) (rmK 3) D vwCl (tyL T) nwL sz [.ref (q 9)] (prW T q n d (x 0) (x 1) (x 2) (x 3) (x 4) (x 11 0) (x 12 0) (x 13 0) (x 14 0) (x 15 0) (x 16 0) (x 17 0) (x 18 0) (x 19 0) (x 20 0)) (fun r u => pst (lodS n x) r u) (fun u => prX T q n d u) := by
  refine cx_inI (by decide) rfl (Nat.le_of_ble_eq_true rfl) ?_
  intro p e s m below meth cd ls A Q hx hb hml hT hown hret hP hK hD hN hS hA hl
  have hown : s.vm.findClass R_PR = some m.cls := hown
  have hl : lv_has ls 2 [(0, .ref (q 9))] := hl
  have hC := hX.1
  have hR0 := hX.2.1
  have hF := hX.2.2
  unfold okR at hR0
  refine lv_aload_n hx hb d_PR_load_0 rfl (lv_at hl 0 rfl) ?_
  refine va_get (D := D) (ci := 2) (v := .ref (q 1)) (C := R_PR) (T := T_PR) (N := 12) hx hb hT lays_PR hown hK hP 0 rfl rfl 0 (by decide) (hT _ tw_78) (fun _ h9 => h9) rfl d_PR_load_1 ?_
  refine lv_aload_n hx hb d_PR_load_4 rfl (lv_at hl 0 rfl) ?_
  refine va_get (D := D) (ci := 2) (v := .int (iI (x 12 0))) (C := R_PR) (T := T_PR) (N := 12) hx hb hT lays_PR hown hK hP 0 rfl rfl 6 (by decide) (hT _ tw_85) (fun _ h9 => h9) rfl d_PR_load_5 ?_
  refine cx_cI (ws2 := fun _ => prW T q n d (x 0) (x 1) (x 2) (x 3) (x 4) (x 11 0) (x 12 0) (x 13 0) (x 14 0) (x 15 0) (x 16 0) (x 17 0) (x 18 0) (x 19 0) (x 20 0)) (cx_rV (q0 := 9) (ci := 3) (rest := []) (As := [.int (iI (x 12 0))]) hx hb hml hown hT hK hN hP hD hl.1 tw_360 k_ST_fieldLength1 (c_ST_fieldLength1 l D T s.heap.size q n (x 0) (x 1) hn hC (x 12 0) (by omega)) ⟨by decide, by decide⟩ ⟨rfl, rfl⟩ [9, 10] (by decide) rfl rfl rfl rfl rfl (Nat.le_of_ble_eq_true rfl) ⟨Nat.zero_le _, Nat.zero_le _⟩ d_PR_load_8) hP hD hS hA [9, 10] [0, 1, 2, 3, 4, 5, 6, 7, 8] [0, 1, 2, 3, 4, 5, 6, 7, 8, 9, 10] rfl (wr := [(q 9, .inr (2, [.ref (q 1), .ref (q 3), .ref (q 5), .ref (q 7), .ref (q 10), .int (iI (x 11 0)), .int (iI (x 12 0)), .int (iI (x 13 0)), .int (iI (x 14 0)), .int (iI (x 15 0)), .int (iI (x 16 0)), .int (iI (x 17 0))])), (q 3, .inr (1, [.int (iI (20)), .int (iI (80)), .ref (q 4), .int (iI (x 18 0))])), (q 4, .inl (T 0, 1680, .inl (fun jj : Nat => (iF (x 2)) (jj : Int)))), (q 5, .inr (1, [.int (iI (40)), .int (iI (132)), .ref (q 6), .int (iI (x 19 0))])), (q 6, .inl (T 0, 5412, .inl (fun jj : Nat => (iF (x 3)) (jj : Int)))), (q 7, .inr (1, [.int (iI (20)), .int (iI (80)), .ref (q 8), .int (iI (x 20 0))])), (q 8, .inl (T 0, 1680, .inl (fun jj : Nat => (iF (x 4)) (jj : Int)))), (q 10, .inr (0, [.ref (q 1), .ref (q 11)])), (q 11, .inl (T 0, n, .inl (fun jj : Nat => (iF d) (jj : Int))))]) rfl (by decide) (by decide) (fun _ => rfl) (by decide) (fun r u_ H locs hq8 hP hD hS => ?_)
  subst hq8
  refine lv_istore_n (lv' := [(1, .int (iI (flr (fld n (x 1) (x 12 0) (n + 1) 2001 1)))), (0, .ref (q 9))]) hx hb d_PR_load_11 rfl hl (by decide) rfl (fun ls hl => ?_)
  obtain ⟨k, hk⟩ : ∃ z, z = fld n (x 1) (x 12 0) (n + 1) 2001 1 := ⟨_, rfl⟩
  rw [← hk] at hl
  have hk1 := fld_in hk
  have hk2 := flr_in k (by omega)
  refine lv_iload_n hx hb d_PR_load_12 rfl (lv_at hl 0 rfl) ?_
  refine cx_iconst hx hb d_PR_load_13 ?_
  refine cx_icmp_eq (tgt := 32) hx hb d_PR_load_14 rfl (by omega) (by omega) (fun h14 => ?_) (fun h14 => ?_)
  · refine cx_iconst hx hb d_PR_load_32 ?_
    exact hret x (pst_of (by unfold lodS lodK; rw [if_pos (by rw [← hk]; unfold flr at *; omega)]) hX) hP hD hS d_PR_load_33
  · have hk3 : flr k = k := flr_pos (by unfold flr at h14; omega)
    rw [hk3] at hl
    refine lv_aload_n hx hb d_PR_load_17 rfl (lv_at hl 1 rfl) ?_
    refine va_get (D := D) (ci := 2) (v := .ref (q 1)) (C := R_PR) (T := T_PR) (N := 12) hx hb hT lays_PR hown hK hP 0 rfl rfl 0 (by decide) (hT _ tw_78) (fun _ h9 => h9) rfl d_PR_load_18 ?_
    refine lv_aload_n hx hb d_PR_load_21 rfl (lv_at hl 1 rfl) ?_
    refine va_get (D := D) (ci := 2) (v := .int (iI (x 13 0))) (C := R_PR) (T := T_PR) (N := 12) hx hb hT lays_PR hown hK hP 0 rfl rfl 7 (by decide) (hT _ tw_87) (fun _ h9 => h9) rfl d_PR_load_22 ?_
    refine lv_iload_n hx hb d_PR_load_25 rfl (lv_at hl 0 rfl) ?_
    refine cx_cI (ws2 := fun _ => prW T q n d (x 0) (x 1) (x 2) (x 3) (x 4) (x 11 0) (x 12 0) (x 13 0) (x 14 0) (x 15 0) (x 16 0) (x 17 0) (x 18 0) (x 19 0) (x 20 0)) (cx_rV (q0 := 9) (ci := 3) (rest := []) (As := [.int (iI (x 13 0)), .int (iI (k))]) hx hb hml hown hT hK hN hP hD hl.1 tw_432 k_ST_hasSpan (c_ST_hasSpan l D T H.size q n (x 0) (x 1) hn (x 13 0) k (by omega) (by omega)) ⟨by decide, by decide⟩ ⟨rfl, rfl⟩ [9, 10] (by decide) rfl rfl rfl rfl rfl (Nat.le_of_ble_eq_true rfl) ⟨Nat.zero_le _, Nat.zero_le _⟩ d_PR_load_26) hP hD hS hA [9, 10] [0, 1, 2, 3, 4, 5, 6, 7, 8] [0, 1, 2, 3, 4, 5, 6, 7, 8, 9, 10] rfl (wr := [(q 9, .inr (2, [.ref (q 1), .ref (q 3), .ref (q 5), .ref (q 7), .ref (q 10), .int (iI (x 11 0)), .int (iI (x 12 0)), .int (iI (x 13 0)), .int (iI (x 14 0)), .int (iI (x 15 0)), .int (iI (x 16 0)), .int (iI (x 17 0))])), (q 3, .inr (1, [.int (iI (20)), .int (iI (80)), .ref (q 4), .int (iI (x 18 0))])), (q 4, .inl (T 0, 1680, .inl (fun jj : Nat => (iF (x 2)) (jj : Int)))), (q 5, .inr (1, [.int (iI (40)), .int (iI (132)), .ref (q 6), .int (iI (x 19 0))])), (q 6, .inl (T 0, 5412, .inl (fun jj : Nat => (iF (x 3)) (jj : Int)))), (q 7, .inr (1, [.int (iI (20)), .int (iI (80)), .ref (q 8), .int (iI (x 20 0))])), (q 8, .inl (T 0, 1680, .inl (fun jj : Nat => (iF (x 4)) (jj : Int)))), (q 10, .inr (0, [.ref (q 1), .ref (q 11)])), (q 11, .inl (T 0, n, .inl (fun jj : Nat => (iF d) (jj : Int))))]) rfl (by decide) (by decide) (fun _ => rfl) (by decide) (fun r u_ H locs hq26 hP hD hS => ?_)
    rcases hq26 with ⟨rfl, h26⟩ | ⟨rfl, h26⟩
    · refine cx_if_ne (tgt := 34) hx hb d_PR_load_29 rfl (by omega) (fun _ => ?_) (fun h0 => absurd h0 (by decide))
      refine lv_aload_n hx hb d_PR_load_34 rfl (lv_at hl 1 rfl) ?_
      refine va_get (D := D) (ci := 2) (v := .ref (q 1)) (C := R_PR) (T := T_PR) (N := 12) hx hb hT lays_PR hown hK hP 0 rfl rfl 0 (by decide) (hT _ tw_78) (fun _ h9 => h9) rfl d_PR_load_35 ?_
      refine lv_aload_n hx hb d_PR_load_38 rfl (lv_at hl 1 rfl) ?_
      refine va_get (D := D) (ci := 2) (v := .int (iI (x 12 0))) (C := R_PR) (T := T_PR) (N := 12) hx hb hT lays_PR hown hK hP 0 rfl rfl 6 (by decide) (hT _ tw_85) (fun _ h9 => h9) rfl d_PR_load_39 ?_
      refine lv_aload_n hx hb d_PR_load_42 rfl (lv_at hl 1 rfl) ?_
      refine va_get (D := D) (ci := 2) (v := .int (iI (x 13 0))) (C := R_PR) (T := T_PR) (N := 12) hx hb hT lays_PR hown hK hP 0 rfl rfl 7 (by decide) (hT _ tw_87) (fun _ h9 => h9) rfl d_PR_load_43 ?_
      refine lv_iload_n hx hb d_PR_load_46 rfl (lv_at hl 0 rfl) ?_
      refine cx_cV (ws2 := fun _ => prW T q n d (cpy (x 0) (x 12 0 - k + 1) (x 13 0 - k + 1) (k)) (cpy (x 1) (x 12 0 - k + 1) (x 13 0 - k + 1) (k)) (x 2) (x 3) (x 4) (x 11 0) (x 12 0) (x 13 0) (x 14 0) (x 15 0) (x 16 0) (x 17 0) (x 18 0) (x 19 0) (x 20 0)) (cx_rV (q0 := 9) (ci := 3) (rest := []) (As := [.int (iI (x 12 0)), .int (iI (x 13 0)), .int (iI (k))]) hx hb hml hown hT hK hN hP hD hl.1 tw_436 k_ST_copySpan (c_ST_copySpan l D T H.size q n (x 0) (x 1) hn (x 12 0) (x 13 0) k (by omega) (by omega) (by omega)) ⟨by decide, by decide⟩ ⟨rfl, rfl⟩ [9, 10] (by decide) rfl rfl rfl rfl rfl (Nat.le_of_ble_eq_true rfl) ⟨Nat.zero_le _, Nat.zero_le _⟩ d_PR_load_47) hP hD hS hA [9, 10] [0, 1, 2, 3, 4, 5, 6, 7, 8] [0, 1, 2, 3, 4, 5, 6, 7, 8, 9, 10] rfl (wr := [(q 9, .inr (2, [.ref (q 1), .ref (q 3), .ref (q 5), .ref (q 7), .ref (q 10), .int (iI (x 11 0)), .int (iI (x 12 0)), .int (iI (x 13 0)), .int (iI (x 14 0)), .int (iI (x 15 0)), .int (iI (x 16 0)), .int (iI (x 17 0))])), (q 3, .inr (1, [.int (iI (20)), .int (iI (80)), .ref (q 4), .int (iI (x 18 0))])), (q 4, .inl (T 0, 1680, .inl (fun jj : Nat => (iF (x 2)) (jj : Int)))), (q 5, .inr (1, [.int (iI (40)), .int (iI (132)), .ref (q 6), .int (iI (x 19 0))])), (q 6, .inl (T 0, 5412, .inl (fun jj : Nat => (iF (x 3)) (jj : Int)))), (q 7, .inr (1, [.int (iI (20)), .int (iI (80)), .ref (q 8), .int (iI (x 20 0))])), (q 8, .inl (T 0, 1680, .inl (fun jj : Nat => (iF (x 4)) (jj : Int)))), (q 10, .inr (0, [.ref (q 1), .ref (q 11)])), (q 11, .inl (T 0, n, .inl (fun jj : Nat => (iF d) (jj : Int))))]) rfl (by decide) (by decide) (fun _ => rfl) (by decide) (fun u_ H locs hq47 hP hD hS => ?_)
      have hC : okC (cpy (x 0) (x 12 0 - k + 1) (x 13 0 - k + 1) (k)) (cpy (x 1) (x 12 0 - k + 1) (x 13 0 - k + 1) (k)) := okC_cpy hC
      refine lv_aload_n hx hb d_PR_load_50 rfl (lv_at hl 1 rfl) ?_
      refine lv_dup hx hb d_PR_load_51 rfl ?_
      refine va_get (D := D) (ci := 2) (v := .int (iI (x 12 0))) (C := R_PR) (T := T_PR) (N := 12) hx hb hT lays_PR hown hK hP 0 rfl rfl 6 (by decide) (hT _ tw_85) (fun _ h9 => h9) rfl d_PR_load_52 ?_
      refine lv_iload_n hx hb d_PR_load_55 rfl (lv_at hl 0 rfl) ?_
      refine cx_isub hx hb d_PR_load_56 ?_
      refine va_put (D := D) (ci := 2) (v := .int (iI ((x 12 0) - k))) (ty := .int) (C := R_PR) (T := T_PR) (N := 12) hx hb hT lays_PR t_PR t_PR_ok n_PR hown hK hP hD hS 0 rfl rfl 6 (by decide) (hT _ tw_85) (fun _ h9 => h9) rfl (by decide +kernel) rfl rfl (Nat.le_of_ble_eq_true rfl) d_PR_load_57 (fun H locs hP hD hS => ?_)
      have hP : va_P D vwCl (prW T q n d (cpy (x 0) (x 12 0 - k + 1) (x 13 0 - k + 1) (k)) (cpy (x 1) (x 12 0 - k + 1) (x 13 0 - k + 1) (k)) (x 2) (x 3) (x 4) (x 11 0) ((x 12 0) - k) (x 13 0) (x 14 0) (x 15 0) (x 16 0) (x 17 0) (x 18 0) (x 19 0) (x 20 0)) H := hP
      have hD : va_D A (prW T q n d (cpy (x 0) (x 12 0 - k + 1) (x 13 0 - k + 1) (k)) (cpy (x 1) (x 12 0 - k + 1) (x 13 0 - k + 1) (k)) (x 2) (x 3) (x 4) (x 11 0) ((x 12 0) - k) (x 13 0) (x 14 0) (x 15 0) (x 16 0) (x 17 0) (x 18 0) (x 19 0) (x 20 0)) := hD
      refine lv_aload_n hx hb d_PR_load_60 rfl (lv_at hl 1 rfl) ?_
      refine lv_dup hx hb d_PR_load_61 rfl ?_
      refine va_get (D := D) (ci := 2) (v := .int (iI (x 13 0))) (C := R_PR) (T := T_PR) (N := 12) hx hb hT lays_PR hown hK hP 0 rfl rfl 7 (by decide) (hT _ tw_87) (fun _ h9 => h9) rfl d_PR_load_62 ?_
      refine lv_iload_n hx hb d_PR_load_65 rfl (lv_at hl 0 rfl) ?_
      refine cx_isub hx hb d_PR_load_66 ?_
      refine va_put (D := D) (ci := 2) (v := .int (iI ((x 13 0) - k))) (ty := .int) (C := R_PR) (T := T_PR) (N := 12) hx hb hT lays_PR t_PR t_PR_ok n_PR hown hK hP hD hS 0 rfl rfl 7 (by decide) (hT _ tw_87) (fun _ h9 => h9) rfl (by decide +kernel) rfl rfl (Nat.le_of_ble_eq_true rfl) d_PR_load_67 (fun H locs hP hD hS => ?_)
      have hP : va_P D vwCl (prW T q n d (cpy (x 0) (x 12 0 - k + 1) (x 13 0 - k + 1) (k)) (cpy (x 1) (x 12 0 - k + 1) (x 13 0 - k + 1) (k)) (x 2) (x 3) (x 4) (x 11 0) ((x 12 0) - k) ((x 13 0) - k) (x 14 0) (x 15 0) (x 16 0) (x 17 0) (x 18 0) (x 19 0) (x 20 0)) H := hP
      have hD : va_D A (prW T q n d (cpy (x 0) (x 12 0 - k + 1) (x 13 0 - k + 1) (k)) (cpy (x 1) (x 12 0 - k + 1) (x 13 0 - k + 1) (k)) (x 2) (x 3) (x 4) (x 11 0) ((x 12 0) - k) ((x 13 0) - k) (x 14 0) (x 15 0) (x 16 0) (x 17 0) (x 18 0) (x 19 0) (x 20 0)) := hD
      refine cx_iconst hx hb d_PR_load_70 ?_
      exact hret (up (up (up (up x 0 (cpy (x 0) (x 12 0 - k + 1) (x 13 0 - k + 1) (k))) 1 (cpy (x 1) (x 12 0 - k + 1) (x 13 0 - k + 1) (k))) 12 (cst ((x 12 0) - k))) 13 (cst ((x 13 0) - k))) (pst_of (by unfold lodS lodK; rw [← hk, if_neg (by omega)]) (show okX (up (up (up (up x 0 (cpy (x 0) (x 12 0 - k + 1) (x 13 0 - k + 1) (k))) 1 (cpy (x 1) (x 12 0 - k + 1) (x 13 0 - k + 1) (k))) 12 (cst ((x 12 0) - k))) 13 (cst ((x 13 0) - k))) from ⟨hC, (show okR (x 11 0) ((x 12 0) - k) ((x 13 0) - k) (x 14 0) (x 15 0) (x 16 0) (x 17 0) (x 18 0) (x 19 0) (x 20 0) by have h8 := hX.2.1; unfold okR at h8 ⊢; omega), hX.2.2⟩)) hP hD hS d_PR_load_71
    · refine cx_if_ne (tgt := 34) hx hb d_PR_load_29 rfl (by omega) (fun h0 => absurd h0 (by decide)) (fun _ => ?_)
      refine cx_iconst hx hb d_PR_load_32 ?_
      exact hret x (pst_of (by unfold lodS lodK; rw [if_pos (by rw [← hk]; unfold flr at *; omega)]) hX) hP hD hS d_PR_load_33
