/-! the Processor: the state of the machine as numbers: 0 characters, 1 marks, 2 cards, 3 lines, 4 punches; at 0 of: 11 I, 12 A, 13 B, 14 compared, 15 overflow, 16 last card, 17 cards read, 18 cards, 19 lines, 20 punches -/
abbrev SX : Type := Nat → Int → Int
def up (x : SX) (k : Nat) (g : Int → Int) : SX := fun j => if j = k then g else x j
abbrev cst (v : Int) : Int → Int := fun _ => v
abbrev prW (T : Nat → ClassId) (q : Nat → Nat) (n : Nat) (d ch mk cf lf pf : Int → Int) (i a b cmp ov last rd cfil lfil pfil : Int) : va_W := [(q 9, .inr (2, [.ref (q 1), .ref (q 3), .ref (q 5), .ref (q 7), .ref (q 10), .int (iI i), .int (iI a), .int (iI b), .int (iI cmp), .int (iI ov), .int (iI last), .int (iI rd)])),
  (q 3, .inr (1, [.int (iI 20), .int (iI 80), .ref (q 4), .int (iI cfil)])), (q 4, .inl (T 0, 1680, .inl (fun j : Nat => iF cf (j : Int)))), (q 5, .inr (1, [.int (iI 40), .int (iI 132), .ref (q 6), .int (iI lfil)])), (q 6, .inl (T 0, 5412, .inl (fun j : Nat => iF lf (j : Int)))), (q 7, .inr (1, [.int (iI 20), .int (iI 80), .ref (q 8), .int (iI pfil)])), (q 8, .inl (T 0, 1680, .inl (fun j : Nat => iF pf (j : Int)))),
  (q 10, .inr (0, [.ref (q 1), .ref (q 11)])), (q 11, .inl (T 0, n, .inl (fun j : Nat => iF d (j : Int)))), (q 1, .inr (3, [.ref (q 2)])), (q 2, .inl (T 0, n, .inl (fun j : Nat => ceF ch mk (j : Int))))]
abbrev prX (T : Nat → ClassId) (q : Nat → Nat) (n : Nat) (d : Int → Int) (x : SX) : va_W := prW T q n d (x 0) (x 1) (x 2) (x 3) (x 4) (x 11 0) (x 12 0) (x 13 0) (x 14 0) (x 15 0) (x 16 0) (x 17 0) (x 18 0) (x 19 0) (x 20 0)
def okR (i a b cmp ov last rd cfil lfil pfil : Int) : Prop := (-1 ≤ i ∧ i ≤ 16000) ∧ (-1 ≤ a ∧ a ≤ 16000) ∧ (-1 ≤ b ∧ b ≤ 16000) ∧ (-1 ≤ cmp ∧ cmp ≤ 1) ∧ (ov = 0 ∨ ov = 1) ∧ (last = 0 ∨ last = 1) ∧ (0 ≤ rd ∧ rd ≤ cfil ∧ cfil ≤ 20) ∧ (0 ≤ lfil ∧ lfil ≤ 40) ∧ (0 ≤ pfil ∧ pfil ≤ 20)
/-- cards hold characters; behind the one that is made up all is blank -/
def okF (cf : Int → Int) (cfil : Int) : Prop := (∀ j, 0 ≤ cf j ∧ cf j < 64) ∧ ∀ j, 80 * (cfil + 1) ≤ j → cf j = 0
def okX (x : SX) : Prop := okC (x 0) (x 1) ∧ okR (x 11 0) (x 12 0) (x 13 0) (x 14 0) (x 15 0) (x 16 0) (x 17 0) (x 18 0) (x 19 0) (x 20 0) ∧ okF (x 2) (x 18 0)
def goS (x : SX) : SX := up (up x 11 (x 12)) 12 (x 11)
def aln (o : Int) : Prop := o = 36 ∨ o = 35 ∨ o = 52 ∨ o = 24 ∨ o = 40 ∨ o = 56
def alw (o k : Int) : Prop := ((o = 49 ∨ o = 18 ∨ o = 58 ∨ o = 42 ∨ o = 36 ∨ o = 35 ∨ o = 52 ∨ o = 24 ∨ o = 51 ∨ o = 27 ∨ o = 60 ∨ o = 17 ∨ o = 25) ∧ (k = 1 ∨ k = 4 ∨ k = 7)) ∨ (o = 50 ∧ (k = 1 ∨ k = 4 ∨ k = 5 ∨ k = 8)) ∨ (o = 21 ∧ k = 8) ∨ ((o = 1 ∨ o = 2 ∨ o = 4) ∧ (k = 1 ∨ k = 2 ∨ k = 4 ∨ k = 5)) ∨ ((o = 40 ∨ o = 56) ∧ k = 4) ∨ (o = 37 ∧ (k = 1 ∨ k = 2 ∨ k = 4 ∨ k = 5 ∨ k = 7 ∨ k = 8)) ∨ (o = 59 ∧ (k = 1 ∨ k = 4))
def spr (c : Int) : Prop := c = 10 ∨ c = 0 ∨ c = 27
def rnk (c : Int) : Int := (if c % 16 = 0 ∨ 10 < c % 16 then 0 else 64) + (48 - c / 16 * 16) + (if c % 16 = 10 then 0 else c % 16)
def sgn (y z : Int) : Int := if y < z then -1 else if y = z then 0 else 1
theorem fin64 {x : Int} (h : 0 ≤ x ∧ x < 64) : ∃ k : Fin 64, x = (k.val : Int) := ⟨⟨x.toNat, by omega⟩, by show x = ((x.toNat : Nat) : Int); omega⟩
def tsw (dflt lo hi : Int) (offs : Array Int) (x : Int) : Int := if x < lo ∨ hi < x then dflt else (offs[(x - lo).toNat]?).getD dflt
def lsw (dflt : Int) (ps : Array (Int × Int)) (x : Int) : Int := Op.lookupswitch.offset ps.toList dflt x
section CX7
variable {p : Program} {l : Launch} {e : Env} {R : Room} {s : State} {m : MethodId} {args : Array Value} {below : List Frame} {meth : Method} {c : Code} {H : Heap} {locs : List Loc} {cells slots : Nat} {Q : State → Prop} {cc : ByteArray} {pc : Nat} {ls : Array Slot} {rest : List Value}
theorem cx_tsw (hx : p.tables.exec = Jvm.exec) (hb : c.code = cc) {dflt lo hi : Int} {offs : Array Int} {len : Nat} {x off : Int} {tgt : Nat} (hdg : decode cc pc = .ok (.tableswitch dflt lo hi offs, len)) (hxb : -2147483648 ≤ x ∧ x < 2147483648) (ho : tsw dflt lo hi offs x = off) (ht : (pc : Int) + off = (tgt : Int))
    (k : W p l e R s m args below meth c H locs cells slots Q (F0 m tgt ls rest)) (hall : ∀ k, lo ≤ k → k ≤ hi → (offs[(k - lo).toNat]?).isSome = true := by intro k h1 h2; rw [Array.getElem?_eq_getElem (by simp; omega)]; rfl) : W p l e R s m args below meth c H locs cells slots Q (F0 m pc ls (.int (iI x) :: rest)) := by
  unfold tsw at ho
  by_cases h : x < lo ∨ hi < x
  · rw [if_pos h] at ho
    exact lv_tableOut hx hb hdg (by rw [iI_toInt hxb]; exact h) (by rw [ho]; exact ht) k
  · rw [if_neg h] at ho
    obtain ⟨o, e1⟩ := Option.isSome_iff_exists.mp (hall x (by omega) (by omega))
    rw [e1] at ho
    have ho : o = off := ho
    exact lv_tableIn hx hb hdg (by rw [iI_toInt hxb]; omega) (by rw [iI_toInt hxb]; omega) (by rw [iI_toInt hxb]; exact e1) (by rw [ho]; exact ht) k
theorem cx_lsw (hx : p.tables.exec = Jvm.exec) (hb : c.code = cc) {dflt : Int} {ps : Array (Int × Int)} {len : Nat} {x off : Int} {tgt : Nat} (hdg : decode cc pc = .ok (.lookupswitch dflt ps, len)) (hxb : -2147483648 ≤ x ∧ x < 2147483648) (ho : lsw dflt ps x = off) (ht : (pc : Int) + off = (tgt : Int))
    (k : W p l e R s m args below meth c H locs cells slots Q (F0 m tgt ls rest)) (hp : (ps.toList.zip (ps.toList.drop 1)).all (fun (a, next) => a.1 < next.1) = true := by decide +kernel) : W p l e R s m args below meth c H locs cells slots Q (F0 m pc ls (.int (iI x) :: rest)) :=
  lv_lookup hx hb hdg hp (by rw [iI_toInt hxb]; exact ho) ht k
end CX7
theorem sw_keepsB_60 : ∀ k : Fin 64, ((k.val : Int) = 24 ∨ (k.val : Int) = 35 ∨ (k.val : Int) = 36 ∨ (k.val : Int) = 40 ∨ (k.val : Int) = 52 ∨ (k.val : Int) = 56) → lsw 61 #[(24, 59), (35, 59), (36, 59), (40, 59), (52, 59), (56, 59)] (k.val : Int) = 59 := by decide +kernel
theorem sw_keepsB_d : ∀ k : Fin 64, ¬ ((k.val : Int) = 24 ∨ (k.val : Int) = 35 ∨ (k.val : Int) = 36 ∨ (k.val : Int) = 40 ∨ (k.val : Int) = 52 ∨ (k.val : Int) = 56) → lsw 61 #[(24, 59), (35, 59), (36, 59), (40, 59), (52, 59), (56, 59)] (k.val : Int) = 61 := by decide +kernel
theorem sw_allows_256 : ∀ k : Fin 64, ((k.val : Int) = 17 ∨ (k.val : Int) = 18 ∨ (k.val : Int) = 24 ∨ (k.val : Int) = 25 ∨ (k.val : Int) = 27 ∨ (k.val : Int) = 35 ∨ (k.val : Int) = 36 ∨ (k.val : Int) = 42 ∨ (k.val : Int) = 49 ∨ (k.val : Int) = 51 ∨ (k.val : Int) = 52 ∨ (k.val : Int) = 58 ∨ (k.val : Int) = 60) → tsw 391 1 60 #[316, 316, 391, 316, 391, 391, 391, 391, 391, 391, 391, 391, 391, 391, 391, 391, 255, 255, 391, 391, 304, 391, 391, 255, 255, 391, 255, 391, 391, 391, 391, 391, 391, 391, 255, 255, 353, 391, 391, 342, 391, 255, 391, 391, 391, 391, 391, 391, 255, 277, 255, 255, 391, 391, 391, 342, 391, 255, 375, 255] (k.val : Int) = 255 := by decide +kernel
theorem sw_allows_278 : ∀ k : Fin 64, ((k.val : Int) = 50) → tsw 391 1 60 #[316, 316, 391, 316, 391, 391, 391, 391, 391, 391, 391, 391, 391, 391, 391, 391, 255, 255, 391, 391, 304, 391, 391, 255, 255, 391, 255, 391, 391, 391, 391, 391, 391, 391, 255, 255, 353, 391, 391, 342, 391, 255, 391, 391, 391, 391, 391, 391, 255, 277, 255, 255, 391, 391, 391, 342, 391, 255, 375, 255] (k.val : Int) = 277 := by decide +kernel
theorem sw_allows_305 : ∀ k : Fin 64, ((k.val : Int) = 21) → tsw 391 1 60 #[316, 316, 391, 316, 391, 391, 391, 391, 391, 391, 391, 391, 391, 391, 391, 391, 255, 255, 391, 391, 304, 391, 391, 255, 255, 391, 255, 391, 391, 391, 391, 391, 391, 391, 255, 255, 353, 391, 391, 342, 391, 255, 391, 391, 391, 391, 391, 391, 255, 277, 255, 255, 391, 391, 391, 342, 391, 255, 375, 255] (k.val : Int) = 304 := by decide +kernel
theorem sw_allows_317 : ∀ k : Fin 64, ((k.val : Int) = 1 ∨ (k.val : Int) = 2 ∨ (k.val : Int) = 4) → tsw 391 1 60 #[316, 316, 391, 316, 391, 391, 391, 391, 391, 391, 391, 391, 391, 391, 391, 391, 255, 255, 391, 391, 304, 391, 391, 255, 255, 391, 255, 391, 391, 391, 391, 391, 391, 391, 255, 255, 353, 391, 391, 342, 391, 255, 391, 391, 391, 391, 391, 391, 255, 277, 255, 255, 391, 391, 391, 342, 391, 255, 375, 255] (k.val : Int) = 316 := by decide +kernel
theorem sw_allows_343 : ∀ k : Fin 64, ((k.val : Int) = 40 ∨ (k.val : Int) = 56) → tsw 391 1 60 #[316, 316, 391, 316, 391, 391, 391, 391, 391, 391, 391, 391, 391, 391, 391, 391, 255, 255, 391, 391, 304, 391, 391, 255, 255, 391, 255, 391, 391, 391, 391, 391, 391, 391, 255, 255, 353, 391, 391, 342, 391, 255, 391, 391, 391, 391, 391, 391, 255, 277, 255, 255, 391, 391, 391, 342, 391, 255, 375, 255] (k.val : Int) = 342 := by decide +kernel
theorem sw_allows_354 : ∀ k : Fin 64, ((k.val : Int) = 37) → tsw 391 1 60 #[316, 316, 391, 316, 391, 391, 391, 391, 391, 391, 391, 391, 391, 391, 391, 391, 255, 255, 391, 391, 304, 391, 391, 255, 255, 391, 255, 391, 391, 391, 391, 391, 391, 391, 255, 255, 353, 391, 391, 342, 391, 255, 391, 391, 391, 391, 391, 391, 255, 277, 255, 255, 391, 391, 391, 342, 391, 255, 375, 255] (k.val : Int) = 353 := by decide +kernel
theorem sw_allows_376 : ∀ k : Fin 64, ((k.val : Int) = 59) → tsw 391 1 60 #[316, 316, 391, 316, 391, 391, 391, 391, 391, 391, 391, 391, 391, 391, 391, 391, 255, 255, 391, 391, 304, 391, 391, 255, 255, 391, 255, 391, 391, 391, 391, 391, 391, 391, 255, 255, 353, 391, 391, 342, 391, 255, 391, 391, 391, 391, 391, 391, 255, 277, 255, 255, 391, 391, 391, 342, 391, 255, 375, 255] (k.val : Int) = 375 := by decide +kernel
theorem sw_allows_d : ∀ k : Fin 64, ¬ ((k.val : Int) = 17 ∨ (k.val : Int) = 18 ∨ (k.val : Int) = 24 ∨ (k.val : Int) = 25 ∨ (k.val : Int) = 27 ∨ (k.val : Int) = 35 ∨ (k.val : Int) = 36 ∨ (k.val : Int) = 42 ∨ (k.val : Int) = 49 ∨ (k.val : Int) = 51 ∨ (k.val : Int) = 52 ∨ (k.val : Int) = 58 ∨ (k.val : Int) = 60) → ¬ ((k.val : Int) = 50) → ¬ ((k.val : Int) = 21) → ¬ ((k.val : Int) = 1 ∨ (k.val : Int) = 2 ∨ (k.val : Int) = 4) → ¬ ((k.val : Int) = 40 ∨ (k.val : Int) = 56) → ¬ ((k.val : Int) = 37) → ¬ ((k.val : Int) = 59) → tsw 391 1 60 #[316, 316, 391, 316, 391, 391, 391, 391, 391, 391, 391, 391, 391, 391, 391, 391, 255, 255, 391, 391, 304, 391, 391, 255, 255, 391, 255, 391, 391, 391, 391, 391, 391, 391, 255, 255, 353, 391, 391, 342, 391, 255, 391, 391, 391, 391, 391, 391, 255, 277, 255, 255, 391, 391, 391, 342, 391, 255, 375, 255] (k.val : Int) = 391 := by decide +kernel
set_option maxHeartbeats 4000000 in
set_option maxRecDepth 100000 in
theorem c_PR_goThere (l : Launch) (D : va_G) (T : Nat → ClassId) (sz : Nat) (q : Nat → Nat) (n : Nat) (hn : 400 ≤ n ∧ n ≤ 2000) (d : Int → Int) (x : SX) (hX : okX x) : MV l y_PR_goThere (wY y_PR_goThere b_PR_goThere 2 none) (rmK 0) D vwCl (tyL T) nwL sz [.ref (q 9)] (prW T q n d (x 0) (x 1) (x 2) (x 3) (x 4) (x 11 0) (x 12 0) (x 13 0) (x 14 0) (x 15 0) (x 16 0) (x 17 0) (x 18 0) (x 19 0) (x 20 0)) (fun (_ : Unit) => True) (fun _ => prX T q n d (goS x)) := by
  refine cx_inV (by decide) rfl (Nat.le_of_ble_eq_true rfl) ?_
  intro p e s m below meth cd ls A Q hx hb hml hT hown hret hP hK hD hN hS hA hl
  have hown : s.vm.findClass R_PR = some m.cls := hown
  have hl : lv_has ls 2 [(0, .ref (q 9))] := hl
  have hC := hX.1
  have hR0 := hX.2.1
  have hF := hX.2.2
  unfold okR at hR0
  refine lv_aload_n hx hb d_PR_goThere_0 rfl (lv_at hl 0 rfl) ?_
  refine va_get (D := D) (ci := 2) (v := .int (iI (x 11 0))) (C := R_PR) (T := T_PR) (N := 12) hx hb hT lays_PR hown hK hP 0 rfl rfl 5 (by decide) (hT _ tw_83) (fun _ h9 => h9) rfl d_PR_goThere_1 ?_
  refine lv_istore_n (lv' := [(1, .int (iI (x 11 0))), (0, .ref (q 9))]) hx hb d_PR_goThere_4 rfl hl (by decide) rfl (fun ls hl => ?_)
  refine lv_aload_n hx hb d_PR_goThere_5 rfl (lv_at hl 1 rfl) ?_
  refine lv_aload_n hx hb d_PR_goThere_6 rfl (lv_at hl 1 rfl) ?_
  refine va_get (D := D) (ci := 2) (v := .int (iI (x 12 0))) (C := R_PR) (T := T_PR) (N := 12) hx hb hT lays_PR hown hK hP 0 rfl rfl 6 (by decide) (hT _ tw_85) (fun _ h9 => h9) rfl d_PR_goThere_7 ?_
  refine va_put (D := D) (ci := 2) (v := .int (iI (x 12 0))) (ty := .int) (C := R_PR) (T := T_PR) (N := 12) hx hb hT lays_PR t_PR t_PR_ok n_PR hown hK hP hD hS 0 rfl rfl 5 (by decide) (hT _ tw_83) (fun _ h9 => h9) rfl (by decide +kernel) rfl rfl (Nat.le_of_ble_eq_true rfl) d_PR_goThere_10 (fun H locs hP hD hS => ?_)
  have hP : va_P D vwCl (prW T q n d (x 0) (x 1) (x 2) (x 3) (x 4) (x 12 0) (x 12 0) (x 13 0) (x 14 0) (x 15 0) (x 16 0) (x 17 0) (x 18 0) (x 19 0) (x 20 0)) H := hP
  have hD : va_D A (prW T q n d (x 0) (x 1) (x 2) (x 3) (x 4) (x 12 0) (x 12 0) (x 13 0) (x 14 0) (x 15 0) (x 16 0) (x 17 0) (x 18 0) (x 19 0) (x 20 0)) := hD
  refine lv_aload_n hx hb d_PR_goThere_13 rfl (lv_at hl 1 rfl) ?_
  refine lv_iload_n hx hb d_PR_goThere_14 rfl (lv_at hl 0 rfl) ?_
  refine va_put (D := D) (ci := 2) (v := .int (iI (x 11 0))) (ty := .int) (C := R_PR) (T := T_PR) (N := 12) hx hb hT lays_PR t_PR t_PR_ok n_PR hown hK hP hD hS 0 rfl rfl 6 (by decide) (hT _ tw_85) (fun _ h9 => h9) rfl (by decide +kernel) rfl rfl (Nat.le_of_ble_eq_true rfl) d_PR_goThere_15 (fun H locs hP hD hS => ?_)
  have hP : va_P D vwCl (prW T q n d (x 0) (x 1) (x 2) (x 3) (x 4) (x 12 0) (x 11 0) (x 13 0) (x 14 0) (x 15 0) (x 16 0) (x 17 0) (x 18 0) (x 19 0) (x 20 0)) H := hP
  have hD : va_D A (prW T q n d (x 0) (x 1) (x 2) (x 3) (x 4) (x 12 0) (x 11 0) (x 13 0) (x 14 0) (x 15 0) (x 16 0) (x 17 0) (x 18 0) (x 19 0) (x 20 0)) := hD
  exact hret () trivial hP hD hS d_PR_goThere_18

set_option maxHeartbeats 4000000 in
set_option maxRecDepth 100000 in
theorem c_PR_modifier (l : Launch) (D : va_G) (T : Nat → ClassId) (sz : Nat) (q : Nat → Nat) (n : Nat) (hn : 400 ≤ n ∧ n ≤ 2000) (d : Int → Int) (x : SX) (hX : okX x) (h1 : 1 ≤ x 11 0 ∧ x 11 0 ≤ n) : MI l y_PR_modifier (wY y_PR_modifier b_PR_modifier 1 (some .int)) (rmK 1) D vwCl (tyL T) nwL sz [.ref (q 9)] (prW T q n d (x 0) (x 1) (x 2) (x 3) (x 4) (x 11 0) (x 12 0) (x 13 0) (x 14 0) (x 15 0) (x 16 0) (x 17 0) (x 18 0) (x 19 0) (x 20 0)) (fun r (_ : Unit) => r = iI (x 0 (x 11 0 - 1))) (fun _ => prX T q n d x) := by
  refine cx_inI (by decide) rfl (Nat.le_of_ble_eq_true rfl) ?_
  intro p e s m below meth cd ls A Q hx hb hml hT hown hret hP hK hD hN hS hA hl
  have hown : s.vm.findClass R_PR = some m.cls := hown
  have hl : lv_has ls 1 [(0, .ref (q 9))] := hl
  have hC := hX.1
  have hR0 := hX.2.1
  have hF := hX.2.2
  unfold okR at hR0
  refine lv_aload_n hx hb d_PR_modifier_0 rfl (lv_at hl 0 rfl) ?_
  refine va_get (D := D) (ci := 2) (v := .ref (q 1)) (C := R_PR) (T := T_PR) (N := 12) hx hb hT lays_PR hown hK hP 0 rfl rfl 0 (by decide) (hT _ tw_78) (fun _ h9 => h9) rfl d_PR_modifier_1 ?_
  refine lv_aload_n hx hb d_PR_modifier_4 rfl (lv_at hl 0 rfl) ?_
  refine va_get (D := D) (ci := 2) (v := .int (iI (x 11 0))) (C := R_PR) (T := T_PR) (N := 12) hx hb hT lays_PR hown hK hP 0 rfl rfl 5 (by decide) (hT _ tw_83) (fun _ h9 => h9) rfl d_PR_modifier_5 ?_
  refine cx_iconst hx hb d_PR_modifier_8 ?_
  refine cx_isub hx hb d_PR_modifier_9 ?_
  refine cx_cI (ws2 := fun _ => prW T q n d (x 0) (x 1) (x 2) (x 3) (x 4) (x 11 0) (x 12 0) (x 13 0) (x 14 0) (x 15 0) (x 16 0) (x 17 0) (x 18 0) (x 19 0) (x 20 0)) (cx_rV (q0 := 9) (ci := 3) (rest := []) (As := [.int (iI ((x 11 0) - 1))]) hx hb hml hown hT hK hN hP hD hl.1 tw_322 k_ST_character (c_ST_character l D T s.heap.size q n (x 0) (x 1) hn hC ((x 11 0) - 1) (by omega)) ⟨by decide, by decide⟩ ⟨rfl, rfl⟩ [9, 10] (by decide) rfl rfl rfl rfl rfl (Nat.le_of_ble_eq_true rfl) ⟨Nat.zero_le _, Nat.zero_le _⟩ d_PR_modifier_10) hP hD hS hA [9, 10] [0, 1, 2, 3, 4, 5, 6, 7, 8] [0, 1, 2, 3, 4, 5, 6, 7, 8, 9, 10] rfl (wr := [(q 9, .inr (2, [.ref (q 1), .ref (q 3), .ref (q 5), .ref (q 7), .ref (q 10), .int (iI (x 11 0)), .int (iI (x 12 0)), .int (iI (x 13 0)), .int (iI (x 14 0)), .int (iI (x 15 0)), .int (iI (x 16 0)), .int (iI (x 17 0))])), (q 3, .inr (1, [.int (iI (20)), .int (iI (80)), .ref (q 4), .int (iI (x 18 0))])), (q 4, .inl (T 0, 1680, .inl (fun jj : Nat => (iF (x 2)) (jj : Int)))), (q 5, .inr (1, [.int (iI (40)), .int (iI (132)), .ref (q 6), .int (iI (x 19 0))])), (q 6, .inl (T 0, 5412, .inl (fun jj : Nat => (iF (x 3)) (jj : Int)))), (q 7, .inr (1, [.int (iI (20)), .int (iI (80)), .ref (q 8), .int (iI (x 20 0))])), (q 8, .inl (T 0, 1680, .inl (fun jj : Nat => (iF (x 4)) (jj : Int)))), (q 10, .inr (0, [.ref (q 1), .ref (q 11)])), (q 11, .inl (T 0, n, .inl (fun jj : Nat => (iF d) (jj : Int))))]) rfl (by decide) (by decide) (fun _ => rfl) (by decide) (fun r u_ H locs hq10 hP hD hS => ?_)
  subst hq10
  exact hret () rfl hP hD hS d_PR_modifier_13

set_option maxHeartbeats 4000000 in
set_option maxRecDepth 100000 in
theorem c_PR_cardsToRead (l : Launch) (D : va_G) (T : Nat → ClassId) (sz : Nat) (q : Nat → Nat) (n : Nat) (hn : 400 ≤ n ∧ n ≤ 2000) (d : Int → Int) (x : SX) (hX : okX x) : MI l y_PR_cardsToRead (wY y_PR_cardsToRead b_PR_cardsToRead 1 (some .int)) (rmK 1) D vwCl (tyL T) nwL sz [.ref (q 9)] (prW T q n d (x 0) (x 1) (x 2) (x 3) (x 4) (x 11 0) (x 12 0) (x 13 0) (x 14 0) (x 15 0) (x 16 0) (x 17 0) (x 18 0) (x 19 0) (x 20 0)) (fun r (_ : Unit) => r = iI (x 18 0 - x 17 0)) (fun _ => prX T q n d x) := by
  refine cx_inI (by decide) rfl (Nat.le_of_ble_eq_true rfl) ?_
  intro p e s m below meth cd ls A Q hx hb hml hT hown hret hP hK hD hN hS hA hl
  have hown : s.vm.findClass R_PR = some m.cls := hown
  have hl : lv_has ls 1 [(0, .ref (q 9))] := hl
  have hC := hX.1
  have hR0 := hX.2.1
  have hF := hX.2.2
  unfold okR at hR0
  refine lv_aload_n hx hb d_PR_cardsToRead_0 rfl (lv_at hl 0 rfl) ?_
  refine va_get (D := D) (ci := 2) (v := .ref (q 3)) (C := R_PR) (T := T_PR) (N := 12) hx hb hT lays_PR hown hK hP 0 rfl rfl 1 (by decide) (hT _ tw_79) (fun _ h9 => h9) rfl d_PR_cardsToRead_1 ?_
  refine cx_cI (ws2 := fun _ => prW T q n d (x 0) (x 1) (x 2) (x 3) (x 4) (x 11 0) (x 12 0) (x 13 0) (x 14 0) (x 15 0) (x 16 0) (x 17 0) (x 18 0) (x 19 0) (x 20 0)) (cx_rV (q0 := 1) (ci := 1) (rest := []) (As := []) hx hb hml hown hT hK hN hP hD hl.1 tw_183 k_PI_filled (c_PI_filled l D T s.heap.size (q 3) (q 4) 20 80 1680 (x 2) (x 18 0) (by omega) ) ⟨by decide, by decide⟩ ⟨rfl, rfl⟩ [1, 2] (by decide) rfl rfl rfl rfl rfl (Nat.le_of_ble_eq_true rfl) ⟨Nat.zero_le _, Nat.zero_le _⟩ d_PR_cardsToRead_4) hP hD hS hA [1, 2] [0, 3, 4, 5, 6, 7, 8, 9, 10] [0, 9, 10, 1, 2, 3, 4, 5, 6, 7, 8] rfl (wr := [(q 9, .inr (2, [.ref (q 1), .ref (q 3), .ref (q 5), .ref (q 7), .ref (q 10), .int (iI (x 11 0)), .int (iI (x 12 0)), .int (iI (x 13 0)), .int (iI (x 14 0)), .int (iI (x 15 0)), .int (iI (x 16 0)), .int (iI (x 17 0))])), (q 5, .inr (1, [.int (iI (40)), .int (iI (132)), .ref (q 6), .int (iI (x 19 0))])), (q 6, .inl (T 0, 5412, .inl (fun jj : Nat => (iF (x 3)) (jj : Int)))), (q 7, .inr (1, [.int (iI (20)), .int (iI (80)), .ref (q 8), .int (iI (x 20 0))])), (q 8, .inl (T 0, 1680, .inl (fun jj : Nat => (iF (x 4)) (jj : Int)))), (q 10, .inr (0, [.ref (q 1), .ref (q 11)])), (q 11, .inl (T 0, n, .inl (fun jj : Nat => (iF d) (jj : Int)))), (q 1, .inr (3, [.ref (q 2)])), (q 2, .inl (T 0, n, .inl (fun jj : Nat => (ceF (x 0) (x 1)) (jj : Int))))]) rfl (by decide) (by decide) (fun _ => rfl) (by decide) (fun r u_ H locs hq4 hP hD hS => ?_)
  subst hq4
  refine lv_aload_n hx hb d_PR_cardsToRead_7 rfl (lv_at hl 0 rfl) ?_
  refine va_get (D := D) (ci := 2) (v := .int (iI (x 17 0))) (C := R_PR) (T := T_PR) (N := 12) hx hb hT lays_PR hown hK hP 0 rfl rfl 11 (by decide) (hT _ tw_95) (fun _ h9 => h9) rfl d_PR_cardsToRead_8 ?_
  refine cx_isub hx hb d_PR_cardsToRead_11 ?_
  exact hret () rfl hP hD hS d_PR_cardsToRead_12

set_option maxHeartbeats 4000000 in
set_option maxRecDepth 100000 in
theorem c_PR_instructionLength (l : Launch) (D : va_G) (T : Nat → ClassId) (sz : Nat) (q : Nat → Nat) (n : Nat) (hn : 400 ≤ n ∧ n ≤ 2000) (d : Int → Int) (x : SX) (hX : okX x) : MI l y_PR_instructionLength (wY y_PR_instructionLength b_PR_instructionLength 2 (some .int)) (rmK 1) D vwCl (tyL T) nwL sz [.ref (q 9)] (prW T q n d (x 0) (x 1) (x 2) (x 3) (x 4) (x 11 0) (x 12 0) (x 13 0) (x 14 0) (x 15 0) (x 16 0) (x 17 0) (x 18 0) (x 19 0) (x 20 0)) (fun r (_ : Unit) => r = iI (flr (ins n (x 1) (x 11 0) 9 1))) (fun _ => prX T q n d x) := by
  refine cx_inI (by decide) rfl (Nat.le_of_ble_eq_true rfl) ?_
  intro p e s m below meth cd ls A Q hx hb hml hT hown hret hP hK hD hN hS hA hl
  have hown : s.vm.findClass R_PR = some m.cls := hown
  have hl : lv_has ls 2 [(0, .ref (q 9))] := hl
  have hC := hX.1
  have hR0 := hX.2.1
  have hF := hX.2.2
  unfold okR at hR0
  refine cx_iconst hx hb d_PR_instructionLength_0 ?_
  refine lv_istore_n (lv' := [(1, .int (iI (1))), (0, .ref (q 9))]) hx hb d_PR_instructionLength_1 rfl hl (by decide) rfl (fun ls hl => ?_)
  have L1 : ∀ (k_ : Nat) (j : Int) (H : Heap) (locs : List Loc) (ls : Array Slot), (1 ≤ j ∧ j ≤ 9 ∧ 9 - j < k_) → (ins n (x 1) (x 11 0) 9 1 = ins n (x 1) (x 11 0) k_ j) → va_P D vwCl (prW T q n d (x 0) (x 1) (x 2) (x 3) (x 4) (x 11 0) (x 12 0) (x 13 0) (x 14 0) (x 15 0) (x 16 0) (x 17 0) (x 18 0) (x 19 0) (x 20 0)) H → va_D A (prW T q n d (x 0) (x 1) (x 2) (x 3) (x 4) (x 11 0) (x 12 0) (x 13 0) (x 14 0) (x 15 0) (x 16 0) (x 17 0) (x 18 0) (x 19 0) (x 20 0)) → va_S A s.heap H locs → lv_has ls 2 [(1, .int (iI (j))), (0, .ref (q 9))] → W p l e (rmK 1) s m ([.ref (q 9)] : List Value).toArray below meth cd H locs 0 0 Q (F0 m 2 ls []) := by
    intro k_
    induction k_ with
    | zero => intro j H locs ls hj hf _ _ _ _; exact absurd hj (by omega)
    | succ k_ ih1 =>
      intro j H locs ls hj hf hP hD hS hl
      refine lv_iload_n hx hb d_PR_instructionLength_2 rfl (lv_at hl 0 rfl) ?_
      refine cx_bipush hx hb d_PR_instructionLength_3 rfl ?_
      refine cx_icmp_gt (tgt := 48) hx hb d_PR_instructionLength_5 rfl (by omega) (by omega) (fun h5 => ?_) (fun h5 => ?_)
      · refine cx_iconst hx hb d_PR_instructionLength_48 ?_
        exact hret () (by rw [hf, ins, if_neg (by omega)]; rfl) hP hD hS d_PR_instructionLength_49
      · refine lv_aload_n hx hb d_PR_instructionLength_8 rfl (lv_at hl 1 rfl) ?_
        refine va_get (D := D) (ci := 2) (v := .ref (q 1)) (C := R_PR) (T := T_PR) (N := 12) hx hb hT lays_PR hown hK hP 0 rfl rfl 0 (by decide) (hT _ tw_78) (fun _ h9 => h9) rfl d_PR_instructionLength_9 ?_
        refine lv_aload_n hx hb d_PR_instructionLength_12 rfl (lv_at hl 1 rfl) ?_
        refine va_get (D := D) (ci := 2) (v := .int (iI (x 11 0))) (C := R_PR) (T := T_PR) (N := 12) hx hb hT lays_PR hown hK hP 0 rfl rfl 5 (by decide) (hT _ tw_83) (fun _ h9 => h9) rfl d_PR_instructionLength_13 ?_
        refine lv_iload_n hx hb d_PR_instructionLength_16 rfl (lv_at hl 0 rfl) ?_
        refine cx_iadd hx hb d_PR_instructionLength_17 ?_
        refine cx_cI (ws2 := fun _ => prW T q n d (x 0) (x 1) (x 2) (x 3) (x 4) (x 11 0) (x 12 0) (x 13 0) (x 14 0) (x 15 0) (x 16 0) (x 17 0) (x 18 0) (x 19 0) (x 20 0)) (cx_rV (q0 := 9) (ci := 3) (rest := []) (As := [.int (iI ((x 11 0) + j))]) hx hb hml hown hT hK hN hP hD hl.1 tw_320 k_ST_has (c_ST_has l D T H.size q n (x 0) (x 1) hn ((x 11 0) + j) (by omega)) ⟨by decide, by decide⟩ ⟨rfl, rfl⟩ [9, 10] (by decide) rfl rfl rfl rfl rfl (Nat.le_of_ble_eq_true rfl) ⟨Nat.zero_le _, Nat.zero_le _⟩ d_PR_instructionLength_18) hP hD hS hA [9, 10] [0, 1, 2, 3, 4, 5, 6, 7, 8] [0, 1, 2, 3, 4, 5, 6, 7, 8, 9, 10] rfl (wr := [(q 9, .inr (2, [.ref (q 1), .ref (q 3), .ref (q 5), .ref (q 7), .ref (q 10), .int (iI (x 11 0)), .int (iI (x 12 0)), .int (iI (x 13 0)), .int (iI (x 14 0)), .int (iI (x 15 0)), .int (iI (x 16 0)), .int (iI (x 17 0))])), (q 3, .inr (1, [.int (iI (20)), .int (iI (80)), .ref (q 4), .int (iI (x 18 0))])), (q 4, .inl (T 0, 1680, .inl (fun jj : Nat => (iF (x 2)) (jj : Int)))), (q 5, .inr (1, [.int (iI (40)), .int (iI (132)), .ref (q 6), .int (iI (x 19 0))])), (q 6, .inl (T 0, 5412, .inl (fun jj : Nat => (iF (x 3)) (jj : Int)))), (q 7, .inr (1, [.int (iI (20)), .int (iI (80)), .ref (q 8), .int (iI (x 20 0))])), (q 8, .inl (T 0, 1680, .inl (fun jj : Nat => (iF (x 4)) (jj : Int)))), (q 10, .inr (0, [.ref (q 1), .ref (q 11)])), (q 11, .inl (T 0, n, .inl (fun jj : Nat => (iF d) (jj : Int))))]) rfl (by decide) (by decide) (fun _ => rfl) (by decide) (fun r u_ H locs hq18 hP hD hS => ?_)
        rcases hq18 with ⟨rfl, h18⟩ | ⟨rfl, h18⟩
        · refine cx_if_eq (tgt := 48) hx hb d_PR_instructionLength_21 rfl (by omega) (fun h0 => absurd h0 (by decide)) (fun _ => ?_)
          refine lv_aload_n hx hb d_PR_instructionLength_24 rfl (lv_at hl 1 rfl) ?_
          refine va_get (D := D) (ci := 2) (v := .ref (q 1)) (C := R_PR) (T := T_PR) (N := 12) hx hb hT lays_PR hown hK hP 0 rfl rfl 0 (by decide) (hT _ tw_78) (fun _ h9 => h9) rfl d_PR_instructionLength_25 ?_
          refine lv_aload_n hx hb d_PR_instructionLength_28 rfl (lv_at hl 1 rfl) ?_
          refine va_get (D := D) (ci := 2) (v := .int (iI (x 11 0))) (C := R_PR) (T := T_PR) (N := 12) hx hb hT lays_PR hown hK hP 0 rfl rfl 5 (by decide) (hT _ tw_83) (fun _ h9 => h9) rfl d_PR_instructionLength_29 ?_
          refine lv_iload_n hx hb d_PR_instructionLength_32 rfl (lv_at hl 0 rfl) ?_
          refine cx_iadd hx hb d_PR_instructionLength_33 ?_
          refine cx_cI (ws2 := fun _ => prW T q n d (x 0) (x 1) (x 2) (x 3) (x 4) (x 11 0) (x 12 0) (x 13 0) (x 14 0) (x 15 0) (x 16 0) (x 17 0) (x 18 0) (x 19 0) (x 20 0)) (cx_rV (q0 := 9) (ci := 3) (rest := []) (As := [.int (iI ((x 11 0) + j))]) hx hb hml hown hT hK hN hP hD hl.1 tw_321 k_ST_hasMark (c_ST_hasMark l D T H.size q n (x 0) (x 1) hn hC ((x 11 0) + j) (by omega)) ⟨by decide, by decide⟩ ⟨rfl, rfl⟩ [9, 10] (by decide) rfl rfl rfl rfl rfl (Nat.le_of_ble_eq_true rfl) ⟨Nat.zero_le _, Nat.zero_le _⟩ d_PR_instructionLength_34) hP hD hS hA [9, 10] [0, 1, 2, 3, 4, 5, 6, 7, 8] [0, 1, 2, 3, 4, 5, 6, 7, 8, 9, 10] rfl (wr := [(q 9, .inr (2, [.ref (q 1), .ref (q 3), .ref (q 5), .ref (q 7), .ref (q 10), .int (iI (x 11 0)), .int (iI (x 12 0)), .int (iI (x 13 0)), .int (iI (x 14 0)), .int (iI (x 15 0)), .int (iI (x 16 0)), .int (iI (x 17 0))])), (q 3, .inr (1, [.int (iI (20)), .int (iI (80)), .ref (q 4), .int (iI (x 18 0))])), (q 4, .inl (T 0, 1680, .inl (fun jj : Nat => (iF (x 2)) (jj : Int)))), (q 5, .inr (1, [.int (iI (40)), .int (iI (132)), .ref (q 6), .int (iI (x 19 0))])), (q 6, .inl (T 0, 5412, .inl (fun jj : Nat => (iF (x 3)) (jj : Int)))), (q 7, .inr (1, [.int (iI (20)), .int (iI (80)), .ref (q 8), .int (iI (x 20 0))])), (q 8, .inl (T 0, 1680, .inl (fun jj : Nat => (iF (x 4)) (jj : Int)))), (q 10, .inr (0, [.ref (q 1), .ref (q 11)])), (q 11, .inl (T 0, n, .inl (fun jj : Nat => (iF d) (jj : Int))))]) rfl (by decide) (by decide) (fun _ => rfl) (by decide) (fun r u_ H locs hq34 hP hD hS => ?_)
          rcases hq34 with ⟨rfl, h34⟩ | ⟨rfl, h34⟩
          · refine cx_if_eq (tgt := 42) hx hb d_PR_instructionLength_37 rfl (by omega) (fun h0 => absurd h0 (by decide)) (fun _ => ?_)
            refine lv_iload_n hx hb d_PR_instructionLength_40 rfl (lv_at hl 0 rfl) ?_
            exact hret () (by rw [hf, ins, if_pos (by omega), if_pos (by omega), flr_pos (by omega)]) hP hD hS d_PR_instructionLength_41
          · refine cx_if_eq (tgt := 42) hx hb d_PR_instructionLength_37 rfl (by omega) (fun _ => ?_) (fun h0 => absurd h0 (by decide))
            refine cx_iinc (k := 0) (lv' := [(1, .int (iI (j + 1))), (0, .ref (q 9))]) hx hb d_PR_instructionLength_42 hl rfl (by decide) rfl (fun ls hl => ?_)
            refine lv_goto (tgt := 2) hx hb d_PR_instructionLength_45 rfl ?_
            exact ih1 (j + 1) _ _ _ (by omega) (by rw [hf, ins, if_pos (by omega), if_neg (by omega)]) hP hD hS (lv_sub hl [0, 1] rfl)
        · refine cx_if_eq (tgt := 48) hx hb d_PR_instructionLength_21 rfl (by omega) (fun _ => ?_) (fun h0 => absurd h0 (by decide))
          refine cx_iconst hx hb d_PR_instructionLength_48 ?_
          exact hret () (by rw [hf, ins, if_neg (by omega)]; rfl) hP hD hS d_PR_instructionLength_49
  exact L1 9 1 _ _ _ (by omega) rfl hP hD hS (lv_sub hl [0, 1] rfl)

set_option maxHeartbeats 4000000 in
set_option maxRecDepth 100000 in
theorem c_PR_keepsB (l : Launch) (D : va_G) (T : Nat → ClassId) (sz : Nat) (o : Int) (ho : 0 ≤ o ∧ o < 64) : MI l y_PR_keepsB (wY y_PR_keepsB b_PR_keepsB 1 (some .boolean)) (rmK 0) D vwCl (tyL T) nwL sz [.int (iI (o))] (([] : va_W)) (fun r (_ : Unit) => (r = iI 1 ∧ (aln o)) ∨ (r = iI 0 ∧ (¬ aln o))) (fun _ => ([] : va_W)) := by
  refine cx_inZ (by decide) rfl (Nat.le_of_ble_eq_true rfl) ?_
  intro p e s m below meth cd ls A Q hx hb hml hT hown hret hP hK hD hN hS hA hl
  have hown : s.vm.findClass R_PR = some m.cls := hown
  have hl : lv_has ls 1 [(0, .int (iI (o)))] := hl
  refine lv_iload_n hx hb d_PR_keepsB_0 rfl (lv_at hl 0 rfl) ?_
  obtain ⟨k9, hk9⟩ : ∃ k : Fin 64, o = (k.val : Int) := fin64 (by omega)
  by_cases hs60 : o = 24 ∨ o = 35 ∨ o = 36 ∨ o = 40 ∨ o = 52 ∨ o = 56
  · refine cx_lsw (tgt := 60) (off := 59) hx hb d_PR_keepsB_1 (by omega) (by rw [hk9]; rw [hk9] at hs60; exact sw_keepsB_60 k9 hs60) rfl ?_
    refine cx_iconst hx hb d_PR_keepsB_60 ?_
    exact hret () (Or.inr rfl) (Or.inl ⟨rfl, by unfold aln; omega⟩) hP hD hS d_PR_keepsB_61
  refine cx_lsw (tgt := 62) (off := 61) hx hb d_PR_keepsB_1 (by omega) (by rw [hk9]; rw [hk9] at hs60; exact sw_keepsB_d k9 hs60) rfl ?_
  refine cx_iconst hx hb d_PR_keepsB_62 ?_
  exact hret () (Or.inl rfl) (Or.inr ⟨rfl, by unfold aln; omega⟩) hP hD hS d_PR_keepsB_63

set_option maxHeartbeats 4000000 in
set_option maxRecDepth 100000 in
theorem c_PR_allows (l : Launch) (D : va_G) (T : Nat → ClassId) (sz : Nat) (o : Int) (ho : 0 ≤ o ∧ o < 64) (k : Int) (hk : -1 ≤ k ∧ k ≤ 8 ∧ ¬ k = 0) : MI l y_PR_allows (wY y_PR_allows b_PR_allows 2 (some .boolean)) (rmK 0) D vwCl (tyL T) nwL sz [.int (iI (o)), .int (iI (k))] (([] : va_W)) (fun r (_ : Unit) => (r = iI 1 ∧ (alw o k)) ∨ (r = iI 0 ∧ (¬ alw o k))) (fun _ => ([] : va_W)) := by
  refine cx_inZ (by decide) rfl (Nat.le_of_ble_eq_true rfl) ?_
  intro p e s m below meth cd ls A Q hx hb hml hT hown hret hP hK hD hN hS hA hl
  have hown : s.vm.findClass R_PR = some m.cls := hown
  have hl : lv_has ls 2 [(0, .int (iI (o))), (1, .int (iI (k)))] := hl
  refine lv_iload_n hx hb d_PR_allows_0 rfl (lv_at hl 0 rfl) ?_
  obtain ⟨k9, hk9⟩ : ∃ k : Fin 64, o = (k.val : Int) := fin64 (by omega)
  by_cases hs256 : o = 17 ∨ o = 18 ∨ o = 24 ∨ o = 25 ∨ o = 27 ∨ o = 35 ∨ o = 36 ∨ o = 42 ∨ o = 49 ∨ o = 51 ∨ o = 52 ∨ o = 58 ∨ o = 60
  · refine cx_tsw (tgt := 256) (off := 255) hx hb d_PR_allows_1 (by omega) (by rw [hk9]; rw [hk9] at hs256; exact sw_allows_256 k9 hs256) rfl ?_
    refine lv_iload_n hx hb d_PR_allows_256 rfl (lv_at hl 1 rfl) ?_
    refine cx_iconst hx hb d_PR_allows_257 ?_
    refine cx_icmp_eq (tgt := 272) hx hb d_PR_allows_258 rfl (by omega) (by omega) (fun h258 => ?_) (fun h258 => ?_)
    · refine cx_iconst hx hb d_PR_allows_272 ?_
      refine lv_goto (tgt := 277) hx hb d_PR_allows_273 rfl ?_
      exact hret () (Or.inr rfl) (Or.inl ⟨rfl, by unfold alw; omega⟩) hP hD hS d_PR_allows_277
    · refine lv_iload_n hx hb d_PR_allows_261 rfl (lv_at hl 1 rfl) ?_
      refine cx_iconst hx hb d_PR_allows_262 ?_
      refine cx_icmp_eq (tgt := 272) hx hb d_PR_allows_263 rfl (by omega) (by omega) (fun h263 => ?_) (fun h263 => ?_)
      · refine cx_iconst hx hb d_PR_allows_272 ?_
        refine lv_goto (tgt := 277) hx hb d_PR_allows_273 rfl ?_
        exact hret () (Or.inr rfl) (Or.inl ⟨rfl, by unfold alw; omega⟩) hP hD hS d_PR_allows_277
      · refine lv_iload_n hx hb d_PR_allows_266 rfl (lv_at hl 1 rfl) ?_
        refine cx_bipush hx hb d_PR_allows_267 rfl ?_
        refine cx_icmp_ne (tgt := 276) hx hb d_PR_allows_269 rfl (by omega) (by omega) (fun h269 => ?_) (fun h269 => ?_)
        · refine cx_iconst hx hb d_PR_allows_276 ?_
          exact hret () (Or.inl rfl) (Or.inr ⟨rfl, by unfold alw; omega⟩) hP hD hS d_PR_allows_277
        · refine cx_iconst hx hb d_PR_allows_272 ?_
          refine lv_goto (tgt := 277) hx hb d_PR_allows_273 rfl ?_
          exact hret () (Or.inr rfl) (Or.inl ⟨rfl, by unfold alw; omega⟩) hP hD hS d_PR_allows_277
  by_cases hs278 : o = 50
  · refine cx_tsw (tgt := 278) (off := 277) hx hb d_PR_allows_1 (by omega) (by rw [hk9]; rw [hk9] at hs278; exact sw_allows_278 k9 hs278) rfl ?_
    refine lv_iload_n hx hb d_PR_allows_278 rfl (lv_at hl 1 rfl) ?_
    refine cx_iconst hx hb d_PR_allows_279 ?_
    refine cx_icmp_eq (tgt := 299) hx hb d_PR_allows_280 rfl (by omega) (by omega) (fun h280 => ?_) (fun h280 => ?_)
    · refine cx_iconst hx hb d_PR_allows_299 ?_
      refine lv_goto (tgt := 304) hx hb d_PR_allows_300 rfl ?_
      exact hret () (Or.inr rfl) (Or.inl ⟨rfl, by unfold alw; omega⟩) hP hD hS d_PR_allows_304
    · refine lv_iload_n hx hb d_PR_allows_283 rfl (lv_at hl 1 rfl) ?_
      refine cx_iconst hx hb d_PR_allows_284 ?_
      refine cx_icmp_eq (tgt := 299) hx hb d_PR_allows_285 rfl (by omega) (by omega) (fun h285 => ?_) (fun h285 => ?_)
      · refine cx_iconst hx hb d_PR_allows_299 ?_
        refine lv_goto (tgt := 304) hx hb d_PR_allows_300 rfl ?_
        exact hret () (Or.inr rfl) (Or.inl ⟨rfl, by unfold alw; omega⟩) hP hD hS d_PR_allows_304
      · refine lv_iload_n hx hb d_PR_allows_288 rfl (lv_at hl 1 rfl) ?_
        refine cx_iconst hx hb d_PR_allows_289 ?_
        refine cx_icmp_eq (tgt := 299) hx hb d_PR_allows_290 rfl (by omega) (by omega) (fun h290 => ?_) (fun h290 => ?_)
        · refine cx_iconst hx hb d_PR_allows_299 ?_
          refine lv_goto (tgt := 304) hx hb d_PR_allows_300 rfl ?_
          exact hret () (Or.inr rfl) (Or.inl ⟨rfl, by unfold alw; omega⟩) hP hD hS d_PR_allows_304
        · refine lv_iload_n hx hb d_PR_allows_293 rfl (lv_at hl 1 rfl) ?_
          refine cx_bipush hx hb d_PR_allows_294 rfl ?_
          refine cx_icmp_ne (tgt := 303) hx hb d_PR_allows_296 rfl (by omega) (by omega) (fun h296 => ?_) (fun h296 => ?_)
          · refine cx_iconst hx hb d_PR_allows_303 ?_
            exact hret () (Or.inl rfl) (Or.inr ⟨rfl, by unfold alw; omega⟩) hP hD hS d_PR_allows_304
          · refine cx_iconst hx hb d_PR_allows_299 ?_
            refine lv_goto (tgt := 304) hx hb d_PR_allows_300 rfl ?_
            exact hret () (Or.inr rfl) (Or.inl ⟨rfl, by unfold alw; omega⟩) hP hD hS d_PR_allows_304
  by_cases hs305 : o = 21
  · refine cx_tsw (tgt := 305) (off := 304) hx hb d_PR_allows_1 (by omega) (by rw [hk9]; rw [hk9] at hs305; exact sw_allows_305 k9 hs305) rfl ?_
    refine lv_iload_n hx hb d_PR_allows_305 rfl (lv_at hl 1 rfl) ?_
    refine cx_bipush hx hb d_PR_allows_306 rfl ?_
    refine cx_icmp_ne (tgt := 315) hx hb d_PR_allows_308 rfl (by omega) (by omega) (fun h308 => ?_) (fun h308 => ?_)
    · refine cx_iconst hx hb d_PR_allows_315 ?_
      exact hret () (Or.inl rfl) (Or.inr ⟨rfl, by unfold alw; omega⟩) hP hD hS d_PR_allows_316
    · refine cx_iconst hx hb d_PR_allows_311 ?_
      refine lv_goto (tgt := 316) hx hb d_PR_allows_312 rfl ?_
      exact hret () (Or.inr rfl) (Or.inl ⟨rfl, by unfold alw; omega⟩) hP hD hS d_PR_allows_316
  by_cases hs317 : o = 1 ∨ o = 2 ∨ o = 4
  · refine cx_tsw (tgt := 317) (off := 316) hx hb d_PR_allows_1 (by omega) (by rw [hk9]; rw [hk9] at hs317; exact sw_allows_317 k9 hs317) rfl ?_
    refine lv_iload_n hx hb d_PR_allows_317 rfl (lv_at hl 1 rfl) ?_
    refine cx_iconst hx hb d_PR_allows_318 ?_
    refine cx_icmp_eq (tgt := 337) hx hb d_PR_allows_319 rfl (by omega) (by omega) (fun h319 => ?_) (fun h319 => ?_)
    · refine cx_iconst hx hb d_PR_allows_337 ?_
      refine lv_goto (tgt := 342) hx hb d_PR_allows_338 rfl ?_
      exact hret () (Or.inr rfl) (Or.inl ⟨rfl, by unfold alw; omega⟩) hP hD hS d_PR_allows_342
    · refine lv_iload_n hx hb d_PR_allows_322 rfl (lv_at hl 1 rfl) ?_
      refine cx_iconst hx hb d_PR_allows_323 ?_
      refine cx_icmp_eq (tgt := 337) hx hb d_PR_allows_324 rfl (by omega) (by omega) (fun h324 => ?_) (fun h324 => ?_)
      · refine cx_iconst hx hb d_PR_allows_337 ?_
        refine lv_goto (tgt := 342) hx hb d_PR_allows_338 rfl ?_
        exact hret () (Or.inr rfl) (Or.inl ⟨rfl, by unfold alw; omega⟩) hP hD hS d_PR_allows_342
      · refine lv_iload_n hx hb d_PR_allows_327 rfl (lv_at hl 1 rfl) ?_
        refine cx_iconst hx hb d_PR_allows_328 ?_
        refine cx_icmp_eq (tgt := 337) hx hb d_PR_allows_329 rfl (by omega) (by omega) (fun h329 => ?_) (fun h329 => ?_)
        · refine cx_iconst hx hb d_PR_allows_337 ?_
          refine lv_goto (tgt := 342) hx hb d_PR_allows_338 rfl ?_
          exact hret () (Or.inr rfl) (Or.inl ⟨rfl, by unfold alw; omega⟩) hP hD hS d_PR_allows_342
        · refine lv_iload_n hx hb d_PR_allows_332 rfl (lv_at hl 1 rfl) ?_
          refine cx_iconst hx hb d_PR_allows_333 ?_
          refine cx_icmp_ne (tgt := 341) hx hb d_PR_allows_334 rfl (by omega) (by omega) (fun h334 => ?_) (fun h334 => ?_)
          · refine cx_iconst hx hb d_PR_allows_341 ?_
            exact hret () (Or.inl rfl) (Or.inr ⟨rfl, by unfold alw; omega⟩) hP hD hS d_PR_allows_342
          · refine cx_iconst hx hb d_PR_allows_337 ?_
            refine lv_goto (tgt := 342) hx hb d_PR_allows_338 rfl ?_
            exact hret () (Or.inr rfl) (Or.inl ⟨rfl, by unfold alw; omega⟩) hP hD hS d_PR_allows_342
  by_cases hs343 : o = 40 ∨ o = 56
  · refine cx_tsw (tgt := 343) (off := 342) hx hb d_PR_allows_1 (by omega) (by rw [hk9]; rw [hk9] at hs343; exact sw_allows_343 k9 hs343) rfl ?_
    refine lv_iload_n hx hb d_PR_allows_343 rfl (lv_at hl 1 rfl) ?_
    refine cx_iconst hx hb d_PR_allows_344 ?_
    refine cx_icmp_ne (tgt := 352) hx hb d_PR_allows_345 rfl (by omega) (by omega) (fun h345 => ?_) (fun h345 => ?_)
    · refine cx_iconst hx hb d_PR_allows_352 ?_
      exact hret () (Or.inl rfl) (Or.inr ⟨rfl, by unfold alw; omega⟩) hP hD hS d_PR_allows_353
    · refine cx_iconst hx hb d_PR_allows_348 ?_
      refine lv_goto (tgt := 353) hx hb d_PR_allows_349 rfl ?_
      exact hret () (Or.inr rfl) (Or.inl ⟨rfl, by unfold alw; omega⟩) hP hD hS d_PR_allows_353
  by_cases hs354 : o = 37
  · refine cx_tsw (tgt := 354) (off := 353) hx hb d_PR_allows_1 (by omega) (by rw [hk9]; rw [hk9] at hs354; exact sw_allows_354 k9 hs354) rfl ?_
    refine lv_iload_n hx hb d_PR_allows_354 rfl (lv_at hl 1 rfl) ?_
    refine cx_iconst hx hb d_PR_allows_355 ?_
    refine cx_icmp_eq (tgt := 374) hx hb d_PR_allows_356 rfl (by omega) (by omega) (fun h356 => ?_) (fun h356 => ?_)
    · refine cx_iconst hx hb d_PR_allows_374 ?_
      exact hret () (Or.inl rfl) (Or.inr ⟨rfl, by unfold alw; omega⟩) hP hD hS d_PR_allows_375
    · refine lv_iload_n hx hb d_PR_allows_359 rfl (lv_at hl 1 rfl) ?_
      refine cx_iconst hx hb d_PR_allows_360 ?_
      refine cx_icmp_eq (tgt := 374) hx hb d_PR_allows_361 rfl (by omega) (by omega) (fun h361 => ?_) (fun h361 => ?_)
      · refine cx_iconst hx hb d_PR_allows_374 ?_
        exact hret () (Or.inl rfl) (Or.inr ⟨rfl, by unfold alw; omega⟩) hP hD hS d_PR_allows_375
      · refine lv_iload_n hx hb d_PR_allows_364 rfl (lv_at hl 1 rfl) ?_
        refine cx_bipush hx hb d_PR_allows_365 rfl ?_
        refine cx_icmp_eq (tgt := 374) hx hb d_PR_allows_367 rfl (by omega) (by omega) (fun h367 => ?_) (fun h367 => ?_)
        · refine cx_iconst hx hb d_PR_allows_374 ?_
          exact hret () (Or.inl rfl) (Or.inr ⟨rfl, by unfold alw; omega⟩) hP hD hS d_PR_allows_375
        · refine cx_iconst hx hb d_PR_allows_370 ?_
          refine lv_goto (tgt := 375) hx hb d_PR_allows_371 rfl ?_
          exact hret () (Or.inr rfl) (Or.inl ⟨rfl, by unfold alw; omega⟩) hP hD hS d_PR_allows_375
  by_cases hs376 : o = 59
  · refine cx_tsw (tgt := 376) (off := 375) hx hb d_PR_allows_1 (by omega) (by rw [hk9]; rw [hk9] at hs376; exact sw_allows_376 k9 hs376) rfl ?_
    refine lv_iload_n hx hb d_PR_allows_376 rfl (lv_at hl 1 rfl) ?_
    refine cx_iconst hx hb d_PR_allows_377 ?_
    refine cx_icmp_eq (tgt := 386) hx hb d_PR_allows_378 rfl (by omega) (by omega) (fun h378 => ?_) (fun h378 => ?_)
    · refine cx_iconst hx hb d_PR_allows_386 ?_
      refine lv_goto (tgt := 391) hx hb d_PR_allows_387 rfl ?_
      exact hret () (Or.inr rfl) (Or.inl ⟨rfl, by unfold alw; omega⟩) hP hD hS d_PR_allows_391
    · refine lv_iload_n hx hb d_PR_allows_381 rfl (lv_at hl 1 rfl) ?_
      refine cx_iconst hx hb d_PR_allows_382 ?_
      refine cx_icmp_ne (tgt := 390) hx hb d_PR_allows_383 rfl (by omega) (by omega) (fun h383 => ?_) (fun h383 => ?_)
      · refine cx_iconst hx hb d_PR_allows_390 ?_
        exact hret () (Or.inl rfl) (Or.inr ⟨rfl, by unfold alw; omega⟩) hP hD hS d_PR_allows_391
      · refine cx_iconst hx hb d_PR_allows_386 ?_
        refine lv_goto (tgt := 391) hx hb d_PR_allows_387 rfl ?_
        exact hret () (Or.inr rfl) (Or.inl ⟨rfl, by unfold alw; omega⟩) hP hD hS d_PR_allows_391
  refine cx_tsw (tgt := 392) (off := 391) hx hb d_PR_allows_1 (by omega) (by rw [hk9]; rw [hk9] at hs256 hs278 hs305 hs317 hs343 hs354 hs376; exact sw_allows_d k9 hs256 hs278 hs305 hs317 hs343 hs354 hs376) rfl ?_
  refine cx_iconst hx hb d_PR_allows_392 ?_
  exact hret () (Or.inl rfl) (Or.inr ⟨rfl, by unfold alw; omega⟩) hP hD hS d_PR_allows_393

set_option maxHeartbeats 4000000 in
set_option maxRecDepth 100000 in
theorem c_PR_isSuppressed (l : Launch) (D : va_G) (T : Nat → ClassId) (sz : Nat) (z : Int) (hz : 0 ≤ z ∧ z < 64) : MI l y_PR_isSuppressed (wY y_PR_isSuppressed b_PR_isSuppressed 1 (some .boolean)) (rmK 0) D vwCl (tyL T) nwL sz [.int (iI (z))] (([] : va_W)) (fun r (_ : Unit) => (r = iI 1 ∧ (spr z)) ∨ (r = iI 0 ∧ (¬ spr z))) (fun _ => ([] : va_W)) := by
  refine cx_inZ (by decide) rfl (Nat.le_of_ble_eq_true rfl) ?_
  intro p e s m below meth cd ls A Q hx hb hml hT hown hret hP hK hD hN hS hA hl
  have hown : s.vm.findClass R_PR = some m.cls := hown
  have hl : lv_has ls 1 [(0, .int (iI (z)))] := hl
  refine lv_iload_n hx hb d_PR_isSuppressed_0 rfl (lv_at hl 0 rfl) ?_
  refine cx_bipush hx hb d_PR_isSuppressed_1 rfl ?_
  refine cx_icmp_eq (tgt := 16) hx hb d_PR_isSuppressed_3 rfl (by omega) (by omega) (fun h3 => ?_) (fun h3 => ?_)
  · refine cx_iconst hx hb d_PR_isSuppressed_16 ?_
    refine lv_goto (tgt := 21) hx hb d_PR_isSuppressed_17 rfl ?_
    exact hret () (Or.inr rfl) (Or.inl ⟨rfl, by unfold spr; omega⟩) hP hD hS d_PR_isSuppressed_21
  · refine lv_iload_n hx hb d_PR_isSuppressed_6 rfl (lv_at hl 0 rfl) ?_
    refine cx_if_eq (tgt := 16) hx hb d_PR_isSuppressed_7 rfl (by omega) (fun h7 => ?_) (fun h7 => ?_)
    · refine cx_iconst hx hb d_PR_isSuppressed_16 ?_
      refine lv_goto (tgt := 21) hx hb d_PR_isSuppressed_17 rfl ?_
      exact hret () (Or.inr rfl) (Or.inl ⟨rfl, by unfold spr; omega⟩) hP hD hS d_PR_isSuppressed_21
    · refine lv_iload_n hx hb d_PR_isSuppressed_10 rfl (lv_at hl 0 rfl) ?_
      refine cx_bipush hx hb d_PR_isSuppressed_11 rfl ?_
      refine cx_icmp_ne (tgt := 20) hx hb d_PR_isSuppressed_13 rfl (by omega) (by omega) (fun h13 => ?_) (fun h13 => ?_)
      · refine cx_iconst hx hb d_PR_isSuppressed_20 ?_
        exact hret () (Or.inl rfl) (Or.inr ⟨rfl, by unfold spr; omega⟩) hP hD hS d_PR_isSuppressed_21
      · refine cx_iconst hx hb d_PR_isSuppressed_16 ?_
        refine lv_goto (tgt := 21) hx hb d_PR_isSuppressed_17 rfl ?_
        exact hret () (Or.inr rfl) (Or.inl ⟨rfl, by unfold spr; omega⟩) hP hD hS d_PR_isSuppressed_21

set_option maxHeartbeats 4000000 in
set_option maxRecDepth 100000 in
theorem c_PR_rank (l : Launch) (D : va_G) (T : Nat → ClassId) (sz : Nat) (z : Int) (hz : 0 ≤ z ∧ z < 64) : MI l y_PR_rank (wY y_PR_rank b_PR_rank 5 (some .int)) (rmK 0) D vwCl (tyL T) nwL sz [.int (iI (z))] (([] : va_W)) (fun r (_ : Unit) => r = iI (rnk z)) (fun _ => ([] : va_W)) := by
  refine cx_inI (by decide) rfl (Nat.le_of_ble_eq_true rfl) ?_
  intro p e s m below meth cd ls A Q hx hb hml hT hown hret hP hK hD hN hS hA hl
  have hown : s.vm.findClass R_PR = some m.cls := hown
  have hl : lv_has ls 5 [(0, .int (iI (z)))] := hl
  refine lv_iload_n hx hb d_PR_rank_0 rfl (lv_at hl 0 rfl) ?_
  refine cx_bipush hx hb d_PR_rank_1 rfl ?_
  refine lv_iand hx hb d_PR_rank_3 ?_
  refine cx_eq (bt_c15 hz) ?_
  refine lv_istore_n (lv' := [(1, .int (iI (z % 16))), (0, .int (iI (z)))]) hx hb d_PR_rank_4 rfl hl (by decide) rfl (fun ls hl => ?_)
  refine lv_iload_n hx hb d_PR_rank_5 rfl (lv_at hl 0 rfl) ?_
  refine cx_if_eq (tgt := 15) hx hb d_PR_rank_6 rfl (by omega) (fun h6 => ?_) (fun h6 => ?_)
  · refine cx_iconst hx hb d_PR_rank_15 ?_
    refine lv_goto (tgt := 20) hx hb d_PR_rank_16 rfl ?_
    refine lv_istore_n (lv' := [(2, .int (iI (1))), (1, .int (iI (z % 16))), (0, .int (iI (z)))]) hx hb d_PR_rank_20 rfl hl (by decide) rfl (fun ls hl => ?_)
    refine lv_iload_n hx hb d_PR_rank_21 rfl (lv_at hl 1 rfl) ?_
    refine cx_bipush hx hb d_PR_rank_22 rfl ?_
    refine cx_icmp_ne (tgt := 31) hx hb d_PR_rank_24 rfl (by omega) (by omega) (fun h24 => ?_) (fun h24 => ?_)
    · refine lv_iload_n hx hb d_PR_rank_31 rfl (lv_at hl 1 rfl) ?_
      refine lv_istore_n (lv' := [(3, .int (iI (z % 16))), (2, .int (iI (1))), (1, .int (iI (z % 16))), (0, .int (iI (z)))]) hx hb d_PR_rank_32 rfl hl (by decide) rfl (fun ls hl => ?_)
      refine cx_bipush hx hb d_PR_rank_33 rfl ?_
      refine lv_iload_n hx hb d_PR_rank_35 rfl (lv_at hl 3 rfl) ?_
      refine cx_bipush hx hb d_PR_rank_36 rfl ?_
      refine lv_iand hx hb d_PR_rank_38 ?_
      refine cx_eq (bt_c48 hz) ?_
      refine cx_isub hx hb d_PR_rank_39 ?_
      refine lv_istore (lv' := [(4, .int (iI (48 - (z / 16 * 16)))), (3, .int (iI (z % 16))), (2, .int (iI (1))), (1, .int (iI (z % 16))), (0, .int (iI (z)))]) hx hb d_PR_rank_40 hl (by decide) rfl (fun ls hl => ?_)
      refine lv_iload_n hx hb d_PR_rank_42 rfl (lv_at hl 2 rfl) ?_
      refine cx_if_eq (tgt := 50) hx hb d_PR_rank_43 rfl (by omega) (fun h0 => absurd h0 (by decide)) (fun _ => ?_)
      refine cx_iconst hx hb d_PR_rank_46 ?_
      refine lv_goto (tgt := 52) hx hb d_PR_rank_47 rfl ?_
      refine lv_iload hx hb d_PR_rank_52 (lv_at hl 0 rfl) ?_
      refine cx_iadd hx hb d_PR_rank_54 ?_
      refine lv_iload_n hx hb d_PR_rank_55 rfl (lv_at hl 1 rfl) ?_
      refine cx_iadd hx hb d_PR_rank_56 ?_
      exact hret () (by rw [show rnk z = _ from rfl]; unfold rnk; congr 1; omega) hP hD hS d_PR_rank_57
    · refine cx_iconst hx hb d_PR_rank_27 ?_
      refine lv_goto (tgt := 32) hx hb d_PR_rank_28 rfl ?_
      refine lv_istore_n (lv' := [(3, .int (iI (0))), (2, .int (iI (1))), (1, .int (iI (z % 16))), (0, .int (iI (z)))]) hx hb d_PR_rank_32 rfl hl (by decide) rfl (fun ls hl => ?_)
      refine cx_bipush hx hb d_PR_rank_33 rfl ?_
      refine lv_iload_n hx hb d_PR_rank_35 rfl (lv_at hl 3 rfl) ?_
      refine cx_bipush hx hb d_PR_rank_36 rfl ?_
      refine lv_iand hx hb d_PR_rank_38 ?_
      refine cx_eq (bt_c48 hz) ?_
      refine cx_isub hx hb d_PR_rank_39 ?_
      refine lv_istore (lv' := [(4, .int (iI (48 - (z / 16 * 16)))), (3, .int (iI (0))), (2, .int (iI (1))), (1, .int (iI (z % 16))), (0, .int (iI (z)))]) hx hb d_PR_rank_40 hl (by decide) rfl (fun ls hl => ?_)
      refine lv_iload_n hx hb d_PR_rank_42 rfl (lv_at hl 2 rfl) ?_
      refine cx_if_eq (tgt := 50) hx hb d_PR_rank_43 rfl (by omega) (fun h0 => absurd h0 (by decide)) (fun _ => ?_)
      refine cx_iconst hx hb d_PR_rank_46 ?_
      refine lv_goto (tgt := 52) hx hb d_PR_rank_47 rfl ?_
      refine lv_iload hx hb d_PR_rank_52 (lv_at hl 0 rfl) ?_
      refine cx_iadd hx hb d_PR_rank_54 ?_
      refine lv_iload_n hx hb d_PR_rank_55 rfl (lv_at hl 1 rfl) ?_
      refine cx_iadd hx hb d_PR_rank_56 ?_
      exact hret () (by rw [show rnk z = _ from rfl]; unfold rnk; congr 1; omega) hP hD hS d_PR_rank_57
  · refine lv_iload_n hx hb d_PR_rank_9 rfl (lv_at hl 0 rfl) ?_
    refine cx_bipush hx hb d_PR_rank_10 rfl ?_
    refine cx_icmp_le (tgt := 19) hx hb d_PR_rank_12 rfl (by omega) (by omega) (fun h12 => ?_) (fun h12 => ?_)
    · refine cx_iconst hx hb d_PR_rank_19 ?_
      refine lv_istore_n (lv' := [(2, .int (iI (0))), (1, .int (iI (z % 16))), (0, .int (iI (z)))]) hx hb d_PR_rank_20 rfl hl (by decide) rfl (fun ls hl => ?_)
      refine lv_iload_n hx hb d_PR_rank_21 rfl (lv_at hl 1 rfl) ?_
      refine cx_bipush hx hb d_PR_rank_22 rfl ?_
      refine cx_icmp_ne (tgt := 31) hx hb d_PR_rank_24 rfl (by omega) (by omega) (fun h24 => ?_) (fun h24 => ?_)
      · refine lv_iload_n hx hb d_PR_rank_31 rfl (lv_at hl 1 rfl) ?_
        refine lv_istore_n (lv' := [(3, .int (iI (z % 16))), (2, .int (iI (0))), (1, .int (iI (z % 16))), (0, .int (iI (z)))]) hx hb d_PR_rank_32 rfl hl (by decide) rfl (fun ls hl => ?_)
        refine cx_bipush hx hb d_PR_rank_33 rfl ?_
        refine lv_iload_n hx hb d_PR_rank_35 rfl (lv_at hl 3 rfl) ?_
        refine cx_bipush hx hb d_PR_rank_36 rfl ?_
        refine lv_iand hx hb d_PR_rank_38 ?_
        refine cx_eq (bt_c48 hz) ?_
        refine cx_isub hx hb d_PR_rank_39 ?_
        refine lv_istore (lv' := [(4, .int (iI (48 - (z / 16 * 16)))), (3, .int (iI (z % 16))), (2, .int (iI (0))), (1, .int (iI (z % 16))), (0, .int (iI (z)))]) hx hb d_PR_rank_40 hl (by decide) rfl (fun ls hl => ?_)
        refine lv_iload_n hx hb d_PR_rank_42 rfl (lv_at hl 2 rfl) ?_
        refine cx_if_eq (tgt := 50) hx hb d_PR_rank_43 rfl (by omega) (fun _ => ?_) (fun h0 => absurd h0 (by decide))
        refine cx_bipush hx hb d_PR_rank_50 rfl ?_
        refine lv_iload hx hb d_PR_rank_52 (lv_at hl 0 rfl) ?_
        refine cx_iadd hx hb d_PR_rank_54 ?_
        refine lv_iload_n hx hb d_PR_rank_55 rfl (lv_at hl 1 rfl) ?_
        refine cx_iadd hx hb d_PR_rank_56 ?_
        exact hret () (by rw [show rnk z = _ from rfl]; unfold rnk; congr 1; omega) hP hD hS d_PR_rank_57
      · refine cx_iconst hx hb d_PR_rank_27 ?_
        refine lv_goto (tgt := 32) hx hb d_PR_rank_28 rfl ?_
        refine lv_istore_n (lv' := [(3, .int (iI (0))), (2, .int (iI (0))), (1, .int (iI (z % 16))), (0, .int (iI (z)))]) hx hb d_PR_rank_32 rfl hl (by decide) rfl (fun ls hl => ?_)
        refine cx_bipush hx hb d_PR_rank_33 rfl ?_
        refine lv_iload_n hx hb d_PR_rank_35 rfl (lv_at hl 3 rfl) ?_
        refine cx_bipush hx hb d_PR_rank_36 rfl ?_
        refine lv_iand hx hb d_PR_rank_38 ?_
        refine cx_eq (bt_c48 hz) ?_
        refine cx_isub hx hb d_PR_rank_39 ?_
        refine lv_istore (lv' := [(4, .int (iI (48 - (z / 16 * 16)))), (3, .int (iI (0))), (2, .int (iI (0))), (1, .int (iI (z % 16))), (0, .int (iI (z)))]) hx hb d_PR_rank_40 hl (by decide) rfl (fun ls hl => ?_)
        refine lv_iload_n hx hb d_PR_rank_42 rfl (lv_at hl 2 rfl) ?_
        refine cx_if_eq (tgt := 50) hx hb d_PR_rank_43 rfl (by omega) (fun _ => ?_) (fun h0 => absurd h0 (by decide))
        refine cx_bipush hx hb d_PR_rank_50 rfl ?_
        refine lv_iload hx hb d_PR_rank_52 (lv_at hl 0 rfl) ?_
        refine cx_iadd hx hb d_PR_rank_54 ?_
        refine lv_iload_n hx hb d_PR_rank_55 rfl (lv_at hl 1 rfl) ?_
        refine cx_iadd hx hb d_PR_rank_56 ?_
        exact hret () (by rw [show rnk z = _ from rfl]; unfold rnk; congr 1; omega) hP hD hS d_PR_rank_57
    · refine cx_iconst hx hb d_PR_rank_15 ?_
      refine lv_goto (tgt := 20) hx hb d_PR_rank_16 rfl ?_
      refine lv_istore_n (lv' := [(2, .int (iI (1))), (1, .int (iI (z % 16))), (0, .int (iI (z)))]) hx hb d_PR_rank_20 rfl hl (by decide) rfl (fun ls hl => ?_)
      refine lv_iload_n hx hb d_PR_rank_21 rfl (lv_at hl 1 rfl) ?_
      refine cx_bipush hx hb d_PR_rank_22 rfl ?_
      refine cx_icmp_ne (tgt := 31) hx hb d_PR_rank_24 rfl (by omega) (by omega) (fun h24 => ?_) (fun h24 => ?_)
      · refine lv_iload_n hx hb d_PR_rank_31 rfl (lv_at hl 1 rfl) ?_
        refine lv_istore_n (lv' := [(3, .int (iI (z % 16))), (2, .int (iI (1))), (1, .int (iI (z % 16))), (0, .int (iI (z)))]) hx hb d_PR_rank_32 rfl hl (by decide) rfl (fun ls hl => ?_)
        refine cx_bipush hx hb d_PR_rank_33 rfl ?_
        refine lv_iload_n hx hb d_PR_rank_35 rfl (lv_at hl 3 rfl) ?_
        refine cx_bipush hx hb d_PR_rank_36 rfl ?_
        refine lv_iand hx hb d_PR_rank_38 ?_
        refine cx_eq (bt_c48 hz) ?_
        refine cx_isub hx hb d_PR_rank_39 ?_
        refine lv_istore (lv' := [(4, .int (iI (48 - (z / 16 * 16)))), (3, .int (iI (z % 16))), (2, .int (iI (1))), (1, .int (iI (z % 16))), (0, .int (iI (z)))]) hx hb d_PR_rank_40 hl (by decide) rfl (fun ls hl => ?_)
        refine lv_iload_n hx hb d_PR_rank_42 rfl (lv_at hl 2 rfl) ?_
        refine cx_if_eq (tgt := 50) hx hb d_PR_rank_43 rfl (by omega) (fun h0 => absurd h0 (by decide)) (fun _ => ?_)
        refine cx_iconst hx hb d_PR_rank_46 ?_
        refine lv_goto (tgt := 52) hx hb d_PR_rank_47 rfl ?_
        refine lv_iload hx hb d_PR_rank_52 (lv_at hl 0 rfl) ?_
        refine cx_iadd hx hb d_PR_rank_54 ?_
        refine lv_iload_n hx hb d_PR_rank_55 rfl (lv_at hl 1 rfl) ?_
        refine cx_iadd hx hb d_PR_rank_56 ?_
        exact hret () (by rw [show rnk z = _ from rfl]; unfold rnk; congr 1; omega) hP hD hS d_PR_rank_57
      · refine cx_iconst hx hb d_PR_rank_27 ?_
        refine lv_goto (tgt := 32) hx hb d_PR_rank_28 rfl ?_
        refine lv_istore_n (lv' := [(3, .int (iI (0))), (2, .int (iI (1))), (1, .int (iI (z % 16))), (0, .int (iI (z)))]) hx hb d_PR_rank_32 rfl hl (by decide) rfl (fun ls hl => ?_)
        refine cx_bipush hx hb d_PR_rank_33 rfl ?_
        refine lv_iload_n hx hb d_PR_rank_35 rfl (lv_at hl 3 rfl) ?_
        refine cx_bipush hx hb d_PR_rank_36 rfl ?_
        refine lv_iand hx hb d_PR_rank_38 ?_
        refine cx_eq (bt_c48 hz) ?_
        refine cx_isub hx hb d_PR_rank_39 ?_
        refine lv_istore (lv' := [(4, .int (iI (48 - (z / 16 * 16)))), (3, .int (iI (0))), (2, .int (iI (1))), (1, .int (iI (z % 16))), (0, .int (iI (z)))]) hx hb d_PR_rank_40 hl (by decide) rfl (fun ls hl => ?_)
        refine lv_iload_n hx hb d_PR_rank_42 rfl (lv_at hl 2 rfl) ?_
        refine cx_if_eq (tgt := 50) hx hb d_PR_rank_43 rfl (by omega) (fun h0 => absurd h0 (by decide)) (fun _ => ?_)
        refine cx_iconst hx hb d_PR_rank_46 ?_
        refine lv_goto (tgt := 52) hx hb d_PR_rank_47 rfl ?_
        refine lv_iload hx hb d_PR_rank_52 (lv_at hl 0 rfl) ?_
        refine cx_iadd hx hb d_PR_rank_54 ?_
        refine lv_iload_n hx hb d_PR_rank_55 rfl (lv_at hl 1 rfl) ?_
        refine cx_iadd hx hb d_PR_rank_56 ?_
        exact hret () (by rw [show rnk z = _ from rfl]; unfold rnk; congr 1; omega) hP hD hS d_PR_rank_57

set_option maxHeartbeats 4000000 in
set_option maxRecDepth 100000 in
theorem c_JI_compare (l : Launch) (D : va_G) (T : Nat → ClassId) (sz : Nat) (y z : Int) (hy : -2147483648 ≤ y ∧ y < 2147483648) (hz : -2147483648 ≤ z ∧ z < 2147483648) : MI l y_JI_compare (wY y_JI_compare b_JI_compare 2 (some .int)) (rmK 0) D vwCl (tyL T) nwL sz [.int (iI (y)), .int (iI (z))] (([] : va_W)) (fun r (_ : Unit) => r = iI (sgn y z)) (fun _ => ([] : va_W)) := by
  refine cx_inI (by decide) rfl (Nat.le_of_ble_eq_true rfl) ?_
  intro p e s m below meth cd ls A Q hx hb hml hT hown hret hP hK hD hN hS hA hl
  have hown : s.vm.findClass R_JI = some m.cls := hown
  have hl : lv_has ls 2 [(0, .int (iI (y))), (1, .int (iI (z)))] := hl
  refine lv_iload_n hx hb d_JI_compare_0 rfl (lv_at hl 0 rfl) ?_
  refine lv_iload_n hx hb d_JI_compare_1 rfl (lv_at hl 1 rfl) ?_
  refine cx_icmp_ge (tgt := 9) hx hb d_JI_compare_2 rfl (by omega) (by omega) (fun h2 => ?_) (fun h2 => ?_)
  · refine lv_iload_n hx hb d_JI_compare_9 rfl (lv_at hl 0 rfl) ?_
    refine lv_iload_n hx hb d_JI_compare_10 rfl (lv_at hl 1 rfl) ?_
    refine cx_icmp_ne (tgt := 18) hx hb d_JI_compare_11 rfl (by omega) (by omega) (fun h11 => ?_) (fun h11 => ?_)
    · refine cx_iconst hx hb d_JI_compare_18 ?_
      exact hret () (by unfold sgn; rw [if_neg (by omega), if_neg (by omega)]) hP hD hS d_JI_compare_19
    · refine cx_iconst hx hb d_JI_compare_14 ?_
      refine lv_goto (tgt := 19) hx hb d_JI_compare_15 rfl ?_
      exact hret () (by unfold sgn; rw [if_neg (by omega), if_pos (by omega)]) hP hD hS d_JI_compare_19
  · refine cx_iconst hx hb d_JI_compare_5 ?_
    refine lv_goto (tgt := 19) hx hb d_JI_compare_6 rfl ?_
    exact hret () (by unfold sgn; rw [if_pos (by omega)]) hP hD hS d_JI_compare_19

set_option maxHeartbeats 4000000 in
set_option maxRecDepth 100000 in
theorem c_PR_takeOverflow (l : Launch) (D : va_G) (T : Nat → ClassId) (sz : Nat) (q : Nat → Nat) (n : Nat) (hn : 400 ≤ n ∧ n ≤ 2000) (d : Int → Int) (x : SX) (hX : okX x) : MI l y_PR_takeOverflow (wY y_PR_takeOverflow b_PR_takeOverflow 2 (some .boolean)) (rmK 0) D vwCl (tyL T) nwL sz [.ref (q 9)] (prW T q n d (x 0) (x 1) (x 2) (x 3) (x 4) (x 11 0) (x 12 0) (x 13 0) (x 14 0) (x 15 0) (x 16 0) (x 17 0) (x 18 0) (x 19 0) (x 20 0)) (fun r (_ : Unit) => r = iI (x 15 0)) (fun _ => prX T q n d (up x 15 (cst 0))) := by
  refine cx_inZ (by decide) rfl (Nat.le_of_ble_eq_true rfl) ?_
  intro p e s m below meth cd ls A Q hx hb hml hT hown hret hP hK hD hN hS hA hl
  have hown : s.vm.findClass R_PR = some m.cls := hown
  have hl : lv_has ls 2 [(0, .ref (q 9))] := hl
  have hC := hX.1
  have hR0 := hX.2.1
  have hF := hX.2.2
  unfold okR at hR0
  refine lv_aload_n hx hb d_PR_takeOverflow_0 rfl (lv_at hl 0 rfl) ?_
  refine va_get (D := D) (ci := 2) (v := .int (iI (x 15 0))) (C := R_PR) (T := T_PR) (N := 12) hx hb hT lays_PR hown hK hP 0 rfl rfl 9 (by decide) (hT _ tw_92) (fun _ h9 => h9) rfl d_PR_takeOverflow_1 ?_
  refine lv_istore_n (lv' := [(1, .int (iI (x 15 0))), (0, .ref (q 9))]) hx hb d_PR_takeOverflow_4 rfl hl (by decide) rfl (fun ls hl => ?_)
  refine lv_aload_n hx hb d_PR_takeOverflow_5 rfl (lv_at hl 1 rfl) ?_
  refine cx_iconst hx hb d_PR_takeOverflow_6 ?_
  refine va_put (D := D) (ci := 2) (v := .int (iI (0))) (ty := .boolean) (C := R_PR) (T := T_PR) (N := 12) hx hb hT lays_PR t_PR t_PR_ok n_PR hown hK hP hD hS 0 rfl rfl 9 (by decide) (hT _ tw_92) (fun _ h9 => h9) rfl (by decide +kernel) rfl rfl (Nat.le_of_ble_eq_true rfl) d_PR_takeOverflow_7 (fun H locs hP hD hS => ?_)
  have hP : va_P D vwCl (prW T q n d (x 0) (x 1) (x 2) (x 3) (x 4) (x 11 0) (x 12 0) (x 13 0) (x 14 0) 0 (x 16 0) (x 17 0) (x 18 0) (x 19 0) (x 20 0)) H := hP
  have hD : va_D A (prW T q n d (x 0) (x 1) (x 2) (x 3) (x 4) (x 11 0) (x 12 0) (x 13 0) (x 14 0) 0 (x 16 0) (x 17 0) (x 18 0) (x 19 0) (x 20 0)) := hD
  refine lv_iload_n hx hb d_PR_takeOverflow_10 rfl (lv_at hl 0 rfl) ?_
  exact hret () (by rcases hR0.2.2.2.2.1 with h | h <;> rw [h] <;> simp) rfl hP hD hS d_PR_takeOverflow_11
