/-! comparing longs; bytes as numbers -/
section CX9
variable {p : Program} {l : Launch} {e : Env} {R : Room} {s : State} {m : MethodId} {args : Array Value} {below : List Frame} {meth : Method} {c : Code} {H : Heap} {locs : List Loc} {cells slots : Nat} {Q : State → Prop}
variable {cc : ByteArray} {pc : Nat} {ls : Array Slot} {rest : List Value}
theorem cx_lcmp (hx : p.tables.exec = Jvm.exec) (hb : c.code = cc) {x y : Int64} (hdg : decode cc pc = .ok (.lcmp, 1))
    (kk : ∀ v : Int, (v = 1 ∨ v = 0 ∨ v = -1) → (v < 0 ↔ x.toInt < y.toInt) → W p l e R s m args below meth c H locs cells slots Q (F0 m (pc + 1) ls (.int (iI v) :: rest))) : W p l e R s m args below meth c H locs cells slots Q (F0 m pc ls (.long y :: .long x :: rest)) := by
  intro T hT X
  by_cases h1 : x > y
  · have h3 : y.toInt < x.toInt := Int64.lt_iff_toInt_lt.mp h1
    obtain ⟨t, a, b⟩ := kk 1 (by omega) (by omega) T hT X
    refine ⟨t, ?_, b⟩
    jvm_step X.here [X.here.top, hx, hb, hdg]
    simp only [h1, if_true]
    exact a
  · have h3 : ¬ y.toInt < x.toInt := fun h => h1 (Int64.lt_iff_toInt_lt.mpr h)
    by_cases h2 : x = y
    · obtain ⟨t, a, b⟩ := kk 0 (by omega) (by rw [h2]; omega) T hT X
      refine ⟨t, ?_, b⟩
      jvm_step X.here [X.here.top, hx, hb, hdg]
      simp only [h1, h2]
      simp
      exact a
    · have h4 : ¬ x.toInt = y.toInt := fun h => h2 (Int64.toInt_inj.mp h)
      obtain ⟨t, a, b⟩ := kk (-1) (by omega) (by omega) T hT X
      refine ⟨t, ?_, b⟩
      jvm_step X.here [X.here.top, hx, hb, hdg]
      simp [h1, h2]
      exact a
end CX9
theorem btB_lt (w : Int64) (k : Int) : (btB w (56 - 8 * k).toNat).toNat < 256 := by
  have h := bty_in w k
  unfold bty at h
  omega
theorem bty_int (w : Int64) (k : Int) : (Int64.ofBitVec (btB w (56 - 8 * k).toNat)).toInt = bty w k := by
  have h := btB_lt w k
  show (btB w (56 - 8 * k).toNat).toInt = _
  rw [BitVec.toInt_eq_toNat_of_lt (by omega)]
  rfl
theorem by_A : ∀ k : Fin 256, (Int64.ofBitVec (BitVec.ofNat 64 k.val)).toInt32 = iI (k.val : Int) ∧ (Int64.ofBitVec (BitVec.ofNat 64 k.val) &&& 63).toInt32 = iI ((k.val : Int) % 64) := by decide +kernel
theorem bty_i (w : Int64) (k : Int) : (Int64.ofBitVec (btB w (56 - 8 * k).toNat)).toInt32 = iI (bty w k) ∧ (Int64.ofBitVec (btB w (56 - 8 * k).toNat) &&& 63).toInt32 = iI (bty w k % 64) := by
  have h := by_A ⟨(btB w (56 - 8 * k).toNat).toNat, btB_lt w k⟩
  rw [show BitVec.ofNat 64 (btB w (56 - 8 * k).toNat).toNat = btB w (56 - 8 * k).toNat from BitVec.ofNat_toNat .. |>.trans (BitVec.setWidth_eq _)] at h
  exact h
theorem sh_S63 (w : Int64) {k : Int} (h : 0 ≤ k ∧ k < 8) : (w >>> ((iI (56 - 8 * k)).toInt64 &&& 63) &&& 63).toInt32 = iI (bty w k % 64) := by
  rw [← (bty_i w k).2, ← sh_S w h, Int64.and_assoc, show (255 : Int64) &&& 63 = 63 by decide]
/-- so many characters lead -/
def pcn (w : Int64) : Nat → Int → Int
  | 0, j => j
  | f + 1, j => if j < 8 ∧ bty w j < 64 then pcn w f (j + 1) else j
theorem pcn_in (w : Int64) : ∀ (f : Nat) (j : Int), 0 ≤ j → j + f ≤ 9 → j ≤ 8 → (j ≤ pcn w f j ∧ pcn w f j ≤ 8 ∧ ∀ i, j ≤ i → i < pcn w f j → bty w i < 64)
  | 0, j, _, _, h8 => ⟨by show j ≤ j; omega, by show j ≤ 8; omega, fun i a b => by have b : i < j := b; omega⟩
  | f + 1, j, h0, h1, h8 => by
    rw [pcn]
    by_cases h : j < 8 ∧ bty w j < 64
    · rw [if_pos h]
      have g := pcn_in w f (j + 1) (by omega) (by omega) (by omega)
      refine ⟨by omega, g.2.1, fun i a b => ?_⟩
      by_cases hi : i = j
      · rw [hi]; exact h.2
      · exact g.2.2 i (by omega) b
    · rw [if_neg h]
      exact ⟨by omega, h8, fun i a b => by omega⟩
def shI (m k : Int) : Int := (iI m >>> (iI k &&& 31)).toInt
def mkb (m k : Int) : Int := (iI (shI m k) &&& iI 1).toInt
theorem iI_ti (v : Int32) : iI v.toInt = v := Int32.ofInt_toInt v
theorem shI_e (m k : Int) : iI m >>> (iI k &&& 31) = iI (shI m k) := (iI_ti _).symm
theorem mkb_e (m k : Int) : iI (shI m k) &&& iI 1 = iI (mkb m k) := (iI_ti _).symm
theorem mkb_in (m k : Int) : -2147483648 ≤ mkb m k ∧ mkb m k < 2147483648 := ⟨Int32.le_toInt _, Int32.toInt_lt _⟩
