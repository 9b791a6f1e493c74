/-! bits of a cell: a character c and a word mark m -/
theorem bt_all : ∀ k : Fin 64, ∀ j : Fin 2, (iI ((k.val : Int) + 64 * (j.val : Int)) &&& iI 63 = iI (k.val : Int)) ∧ (iI ((k.val : Int) + 64 * (j.val : Int)) &&& iI 64 = iI (64 * (j.val : Int))) ∧ (iI ((k.val : Int) + 64 * (j.val : Int)) &&& iI 48 = iI ((k.val : Int) / 16 * 16)) ∧ (iI ((k.val : Int) + 64 * (j.val : Int)) &&& iI 15 = iI ((k.val : Int) % 16)) ∧ (iI (64 * (j.val : Int)) ||| iI (k.val : Int) = iI ((k.val : Int) + 64 * (j.val : Int))) ∧ (iI (k.val : Int) ||| iI (64 * (j.val : Int)) = iI ((k.val : Int) + 64 * (j.val : Int))) := by decide +kernel
theorem bt_one {c m : Int} (hc : 0 ≤ c ∧ c < 64) (hm : m = 0 ∨ m = 1) : (iI (c + 64 * m) &&& iI 63 = iI c) ∧ (iI (c + 64 * m) &&& iI 64 = iI (64 * m)) ∧ (iI (c + 64 * m) &&& iI 48 = iI (c / 16 * 16)) ∧ (iI (c + 64 * m) &&& iI 15 = iI (c % 16)) ∧ (iI (64 * m) ||| iI c = iI (c + 64 * m)) ∧ (iI c ||| iI (64 * m) = iI (c + 64 * m)) := by
  obtain ⟨k, rfl⟩ := Int.eq_ofNat_of_zero_le hc.1
  rcases hm with rfl | rfl
  · exact bt_all ⟨k, by omega⟩ 0
  · exact bt_all ⟨k, by omega⟩ 1
theorem bt_63 {c m : Int} (hc : 0 ≤ c ∧ c < 64) (hm : m = 0 ∨ m = 1) : iI (c + 64 * m) &&& iI 63 = iI c := (bt_one hc hm).1
theorem bt_64 {c m : Int} (hc : 0 ≤ c ∧ c < 64) (hm : m = 0 ∨ m = 1) : iI (c + 64 * m) &&& iI 64 = iI (64 * m) := (bt_one hc hm).2.1
theorem bt_48 {c m : Int} (hc : 0 ≤ c ∧ c < 64) (hm : m = 0 ∨ m = 1) : iI (c + 64 * m) &&& iI 48 = iI (c / 16 * 16) := (bt_one hc hm).2.2.1
theorem bt_15 {c m : Int} (hc : 0 ≤ c ∧ c < 64) (hm : m = 0 ∨ m = 1) : iI (c + 64 * m) &&& iI 15 = iI (c % 16) := (bt_one hc hm).2.2.2.1
theorem bt_mo {c m : Int} (hc : 0 ≤ c ∧ c < 64) (hm : m = 0 ∨ m = 1) : iI (64 * m) ||| iI c = iI (c + 64 * m) := (bt_one hc hm).2.2.2.2.1
theorem bt_om {c : Int} (hc : 0 ≤ c ∧ c < 64) : iI c ||| iI 64 = iI (c + 64 * 1) := (bt_one hc (Or.inr rfl)).2.2.2.2.2
theorem bt_c48 {c : Int} (hc : 0 ≤ c ∧ c < 64) : iI c &&& iI 48 = iI (c / 16 * 16) := by
  have h := bt_48 hc (Or.inl rfl)
  rwa [Int.mul_zero, Int.add_zero] at h
theorem bt_c15 {c : Int} (hc : 0 ≤ c ∧ c < 64) : iI c &&& iI 15 = iI (c % 16) := by
  have h := bt_15 hc (Or.inl rfl)
  rwa [Int.mul_zero, Int.add_zero] at h
theorem bt_dzA : ∀ d : Fin 16, ∀ z : Fin 4, iI (d.val : Int) ||| iI (16 * (z.val : Int)) = iI ((d.val : Int) + 16 * (z.val : Int)) := by decide +kernel
theorem bt_dz {d z : Int} (hd : 0 ≤ d ∧ d < 16) (hz : 0 ≤ z ∧ z < 4) : iI d ||| iI (16 * z) = iI (d + 16 * z) := by
  obtain ⟨k, rfl⟩ := Int.eq_ofNat_of_zero_le hd.1
  obtain ⟨j, rfl⟩ := Int.eq_ofNat_of_zero_le hz.1
  exact bt_dzA ⟨k, by omega⟩ ⟨j, by omega⟩
/-! a span to the left of b, k places, written anew -/
def spn (f : Int → Int) (b k : Int) (F : Int → Int) : Int → Int := fun j => if b - k < j ∧ j ≤ b then F (b - j) else f j
theorem spn_0 (f : Int → Int) (b : Int) (F : Int → Int) : spn f b 0 F = f := by
  funext j
  unfold spn
  rw [if_neg (by omega)]
theorem spn_step {f F : Int → Int} {b k v : Int} (hk : 0 ≤ k) (h : F k = v) : fu (spn f b k F) (b - k) v = spn f b (k + 1) F := by
  funext j
  unfold fu spn
  by_cases hj : j = b - k
  · rw [if_pos hj, if_pos (by omega), hj, show b - (b - k) = k by omega, h]
  · rw [if_neg hj]
    by_cases hq : b - k < j ∧ j ≤ b
    · rw [if_pos hq, if_pos (by omega)]
    · rw [if_neg hq, if_neg (by omega)]
theorem spn_out {f F : Int → Int} {b k j : Int} (h : j ≤ b - k ∨ b < j) : spn f b k F j = f j := by
  unfold spn
  rw [if_neg (by omega)]
theorem spn_in {f F : Int → Int} {b k j : Int} (h : 0 ≤ j ∧ j < k) : spn f b k F (b - j) = F j := by
  unfold spn
  rw [if_pos (by omega), show b - (b - j) = j by omega]
/-! lengths of fields; 0: none. n: the store's size, mk: its marks -/
def fld (n : Int) (mk : Int → Int) (u most : Int) : Nat → Int → Int
  | 0, _ => 0
  | k + 1, j => if 0 ≤ u - j + 1 ∧ u - j + 1 < n then (if j = most ∨ mk (u - j + 1) = 1 then j else fld n mk u most k (j + 1)) else 0
def cmn (n : Int) (mk : Int → Int) (a b : Int) : Nat → Int → Int
  | 0, _ => 0
  | k + 1, j => if (0 ≤ a - j + 1 ∧ a - j + 1 < n) ∧ (0 ≤ b - j + 1 ∧ b - j + 1 < n) then (if mk (a - j + 1) = 1 ∨ mk (b - j + 1) = 1 then j else cmn n mk a b k (j + 1)) else 0
def ins (n : Int) (mk : Int → Int) (i : Int) : Nat → Int → Int
  | 0, _ => 0
  | k + 1, j => if j ≤ 8 ∧ (0 ≤ i + j ∧ i + j < n) then (if mk (i + j) = 1 then j else ins n mk i k (j + 1)) else 0
/-- a character's value, a digit as it is written, a zone -/
def vl (c : Int) : Int := c % 16 % 10
def wrt (v : Int) : Int := if v = 0 then 10 else v
def zn (c : Int) : Int := c / 16 * 16
