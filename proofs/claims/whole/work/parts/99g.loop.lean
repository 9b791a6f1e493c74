/-! the law: the script's first number, the loop -/
def cx_BS (D : va_G) (cl : List vw_C) (tys : List (ClassId × FieldType)) (nw : List Cond) (sz b L : Nat) (xs : Nat → Int32) (U : State) : Prop := cx_B D cl tys nw sz [] U ∧ va_X b L xs U U.heap ∧ b < sz
theorem no_A {sz b : Nat} (h : b < sz) : ¬ va_A [] sz b := fun h9 => by
  rcases h9 with ⟨k, e9, h1⟩ | h1
  · rw [List.getElem?_nil] at h1
    cases h1
  · omega
theorem nil_P {D : va_G} {cl : List vw_C} {H : Heap} : va_P D cl [] H := by
  intro k q hk
  rw [List.getElem?_nil] at hk
  cases hk
theorem nil_D {A : Nat → Prop} : va_D A [] := by
  constructor
  · intro i j p q h
    rw [List.getElem?_nil] at h
    cases h
  · intro k q h
    rw [List.getElem?_nil] at h
    cases h
set_option maxHeartbeats 4000000 in
set_option maxRecDepth 100000 in
theorem c_LA_cell (l : Launch) (D : va_G) (T : Nat → ClassId) (sz b L : Nat) (xs : Nat → Int32) (hL : L < 100000) : Met l y_LA_cell (wY y_LA_cell b_LA_cell 2 (some .int)) (rmK 0) (va_Pc [.ref b, .int (iI 0)] (cx_BS D vwCl (tyL T) nwL sz b L xs)) (cxI D vwCl (fun r (_ : Unit) => r = iI (if 0 < L then sv xs 0 else 0)) (fun _ => []) (va_A [] sz)) 0 0 (va_A [] sz) := by
  refine Met.ofW (cc := b_LA_cell) (maxL := 2) (ret := some .int) (by decide) rfl ?_
  intro p e s m args below meth c s₁ B hml hv
  obtain ⟨rfl, ⟨rfl, hP, hK, hD0, hN⟩, hX, hbl⟩ := hv
  have hl := lv_entry ([.ref b, .int (iI 0)] : List Value) (n := 2) (Nat.le_of_ble_eq_true rfl)
  rw [lg_entry_eq]
  generalize (lg_sl ([.ref b, .int (iI 0)] : List Value) ++ List.replicate (2 - (lg_sl ([.ref b, .int (iI 0)] : List Value)).length) Slot.unset).toArray = ls at hl ⊢
  have hl : lv_has ls 2 [(0, .ref b), (1, .int (iI 0))] := hl
  have hx := B.exec
  have hb := B.bytes
  have hbA : ¬ va_A [] s.heap.size b := no_A hbl
  have hS : va_S (va_A [] s.heap.size) s.heap s.heap [] := va_S.rf
  refine lv_iload_n hx hb d_LA_cell_0 rfl (lv_at hl 1 rfl) ?_
  refine lv_aload_n hx hb d_LA_cell_1 rfl (lv_at hl 0 rfl) ?_
  refine va_slen hx hb hX hbl hbA hS d_LA_cell_2 ?_
  refine cx_eq (y := iI (L : Int)) (iI_nI L).symm ?_
  refine cx_icmp_ge (tgt := 12) hx hb d_LA_cell_3 rfl (by omega) (by omega) (fun h3 => ?_) (fun h3 => ?_)
  · refine cx_iconst hx hb d_LA_cell_12 ?_
    exact cx_iret hx hb B.returns B.notSynchronized () (by rw [if_neg (by omega)]) hP (hD0.self) hS d_LA_cell_13
  · refine lv_aload_n hx hb d_LA_cell_6 rfl (lv_at hl 0 rfl) ?_
    refine lv_iload_n hx hb d_LA_cell_7 rfl (lv_at hl 1 rfl) ?_
    refine cx_sld hx hb hX hbl hbA hS (by omega) (by omega) d_LA_cell_8 ?_
    refine lv_goto (tgt := 13) hx hb d_LA_cell_9 rfl ?_
    exact cx_iret hx hb B.returns B.notSynchronized () (by rw [if_pos (by omega)]) hP (hD0.self) hS d_LA_cell_13
theorem and15 (v : Int32) : ∃ k : Int, (0 ≤ k ∧ k < 16) ∧ v &&& iI 15 = iI k := by
  have h : (v.toBitVec &&& 15#32).toNat ≤ 15 := by
    rw [BitVec.toNat_and]
    exact Nat.and_le_right
  refine ⟨((v.toBitVec &&& 15#32).toNat : Int), by omega, ?_⟩
  apply Int32.toBitVec_inj.1
  show v.toBitVec &&& 15#32 = BitVec.ofInt 32 _
  rw [BitVec.ofInt_natCast, BitVec.ofNat_toNat, BitVec.setWidth_eq]
section LAW2
variable {p : Program} {l : Launch} {e : Env} {s : State} {m : MethodId} {below : List Frame} {meth : Method} {c : Code} {A : Nat → Prop} {b L o n : Nat} {xs : Nat → Int32} {D : va_G} {T : Nat → ClassId} {q qm : Nat → Nat}
theorem law_cell {Q : State → Prop} (C0 : laC p l e s m meth c b L xs A D T n) {H : Heap} {locs : List Loc} {ls : Array Slot} {cells slots pc : Nat} {rest : List Value} {ws : va_W} (hP : va_P D vwCl ws H) (hD : va_D A ws) (hS : va_S A s.heap H locs) (hls : ls.size = 8) (hcat : (rest.map fun v => v.category).sum ≤ 8) (hf : cells ≤ room_1.cells ∧ slots ≤ room_1.slots) (hdg : decode code pc = .ok (.invokestatic 47, 3))
    (kk : ∀ (H : Heap) (locs : List Loc), va_P D vwCl ws H → va_D A ws → va_S A s.heap H locs → W p l e room_1 s m #[Value.ref b] below meth c H locs cells slots Q (F0 m (pc + 3) ls (.int (iI (if 0 < L then sv xs 0 else 0)) :: rest))) : W p l e room_1 s m #[Value.ref b] below meth c H locs cells slots Q (F0 m pc ls (.int (iI 0) :: .ref b :: rest)) := by
  obtain ⟨hx, hb, hml, hT, hown, hK, hN, hZ, hA, hXs, hbl, hbA, hlt, hL⟩ := C0
  have hp : PreS s H (va_Pc [.ref b, .int (iI 0)] (cx_BS D vwCl (tyL T) nwL H.size b L xs)) [.ref b, .int (iI 0)] := ⟨fun a U g mk q => by
      obtain ⟨q0, qB, qX, ql⟩ := q
      have h := cx_blind (D := D) (cl := vwCl) (tys := tyL T) (sz := H.size) (wc := []) (av := [.ref b, .int (iI 0)]) nwL_ok a U g mk ⟨q0, qB⟩
      exact ⟨h.1, h.2, va_X.moved (u := U) (U := U.calling g mk a) (Vm.Alike.refl U.vm) qX, ql⟩,
    fun U hU hW => ⟨rfl, ⟨by rw [hU], nil_P, va_K.moved hW.alike hK, nil_D, cx_N.moved nwL_ok hW hN⟩, by rw [hU]; exact va_X.moved hW.alike (hXs.kept (hS.2.1 b hbl hbA)), Nat.lt_of_lt_of_le hbl hS.1⟩⟩
  have hFc := va_free (wc := []) hD hS hA [] rfl
  refine va_calli (va_runS (As := [.ref b, .int (iI 0)]) (rest := rest) ⟨hx, hb, hml, hown, hT⟩ (c_LA_cell l D T H.size b L xs hL) (cx_wS hT tw_196 k_LA_cell ⟨by decide, by decide⟩ ⟨rfl, rfl⟩) hp rfl rfl hls rfl (lv_room hcat) hdg hf) hS (fun q _ h => hFc q h) hFc (fun r u t H1 locs1 ht hvm hq hB hz hk hS1 => ?_)
  have hq : r = _ := hq
  subst hq
  exact kk H1 locs1 (va_P.kept hP (fun k q hk9 => hk q.1 (vx_lt hP hk9) (no_A (vx_lt hP hk9)))) hD hS1
set_option maxHeartbeats 4000000 in
set_option maxRecDepth 100000 in
theorem law_loop (C0 : laC p l e s m meth c b L xs A D T n) (hn : 400 ≤ n ∧ n ≤ 2000) (hA0 : ∀ q, A q → s.heap.size ≤ q) (hr : meth.sig.returnType = ret) (hlocks : meth.locks = false) : ∀ (k_ : Nat) (j : Int) (x y : SX) (d : Int → Int) (g : Nat → Int64) (H : Heap) (locs : List Loc) (ls : Array Slot) (cells slots : Nat), (1 ≤ j ∧ j ≤ L + 5 ∧ (L : Int) - j + 5 < 5 * k_) → okX x → (cells + k_ ≤ 601024 ∧ slots + 6 * k_ ≤ 7293000) → va_P D vwCl (laW T o g q n d x qm x y) H → va_D A (laW T o g q n d x qm x y) → va_S A s.heap H locs → lv_has ls 8 (laL j q qm o b) → W p l e room_1 s m #[Value.ref b] below meth c H locs cells slots (lw_Z below #[Value.ref b] s) (F0 m 33 ls []) := by
  have C1 := C0
  obtain ⟨hx, hb, hml, hT, hown, hK, hN, hZ, hA, hXs, hbl, hbA, hlt, hL⟩ := C1
  intro k_
  induction k_ with
  | zero => intro j x y d g H locs ls cells slots hj _ _ _ _ _ _; exact absurd hj (by omega)
  | succ k_ ih =>
    intro j x y d g H locs ls cells slots hj hX hf hP hD hS hl
    have kk : (j + 5 ≤ (L : Int) → laK p l e s m below meth c b A D T q qm o n (lw_Z below #[Value.ref b] s) j (cells + 1) (slots + 6)) → W p l e room_1 s m #[Value.ref b] below meth c H locs cells slots (lw_Z below #[Value.ref b] s) (F0 m 33 ls []) := fun kk0 => by
      refine lv_iload hx hb d_LA_law_33 (lv_at hl 0 rfl) ?_
      refine lv_aload_n hx hb d_LA_law_35 rfl (lv_at hl 4 rfl) ?_
      refine va_slen hx hb hXs hbl hbA hS d_LA_law_36 ?_
      refine cx_eq (y := iI (L : Int)) (iI_nI L).symm ?_
      refine cx_iconst hx hb d_LA_law_37 ?_
      refine cx_isub hx hb d_LA_law_38 ?_
      refine cx_icmp_gt (tgt := 821) hx hb d_LA_law_39 rfl (by omega) (by omega) (fun h39 => ?_) (fun h39 => ?_)
      · refine cx_iconst hx hb d_LA_law_821 ?_
        refine cx_eq (y := 1) rfl ?_
        refine W.widen (k := 601024) (n := 7293000) (by omega) (by omega) ?_
        refine va_forget (fun q hq => hA0 _ (hS.2.2 q hq)) ?_
        exact lw_ret hx hb hr hlocks d_LA_law_822
      · refine lv_aload_n hx hb d_LA_law_42 rfl (lv_at hl 4 rfl) ?_
        refine lv_iload hx hb d_LA_law_43 (lv_at hl 0 rfl) ?_
        refine cx_sld hx hb hXs hbl hbA hS (by omega) (by omega) d_LA_law_45 ?_
        refine cx_bipush hx hb d_LA_law_46 rfl ?_
        refine lv_iand hx hb d_LA_law_48 ?_
        obtain ⟨k, hk, he⟩ := and15 (iI (sv xs j))
        refine cx_eq he ?_
        have hj2 : 1 ≤ j ∧ j + 5 ≤ L := by omega
        have kk := kk0 hj2.2
        have hf9 : cells + 1 ≤ 601024 ∧ slots + 6 ≤ 7293000 := by omega
        have hk16 : k = 0 ∨ k = 1 ∨ k = 2 ∨ k = 3 ∨ k = 4 ∨ k = 5 ∨ k = 6 ∨ k = 7 ∨ k = 8 ∨ k = 9 ∨ k = 10 ∨ k = 11 ∨ k = 12 ∨ k = 13 ∨ k = 14 ∨ k = 15 := by omega
        rcases hk16 with rfl | rfl | rfl | rfl | rfl | rfl | rfl | rfl | rfl | rfl | rfl | rfl | rfl | rfl | rfl | rfl
        · refine cx_tsw (tgt := 116) (off := 67) hx hb d_LA_law_49 (by omega) (by decide +kernel) rfl ?_
          exact law_0 C0 hn j hj2 x y d g hX hf9 hP hD hS hl kk
        · refine cx_tsw (tgt := 181) (off := 132) hx hb d_LA_law_49 (by omega) (by decide +kernel) rfl ?_
          exact law_1 C0 hn j hj2 x y d g hX hf9 hP hD hS hl kk
        · refine cx_tsw (tgt := 293) (off := 244) hx hb d_LA_law_49 (by omega) (by decide +kernel) rfl ?_
          exact law_2 C0 hn j hj2 x y d g hX hf9 hP hD hS hl kk
        · refine cx_tsw (tgt := 330) (off := 281) hx hb d_LA_law_49 (by omega) (by decide +kernel) rfl ?_
          exact law_3 C0 hn j hj2 x y d g hX hf9 hP hD hS hl kk
        · refine cx_tsw (tgt := 374) (off := 325) hx hb d_LA_law_49 (by omega) (by decide +kernel) rfl ?_
          exact law_4 C0 hn j hj2 x y d g hX hf9 hP hD hS hl kk
        · refine cx_tsw (tgt := 399) (off := 350) hx hb d_LA_law_49 (by omega) (by decide +kernel) rfl ?_
          exact law_5 C0 hn j hj2 x y d g hX hf9 hP hD hS hl kk
        · refine cx_tsw (tgt := 455) (off := 406) hx hb d_LA_law_49 (by omega) (by decide +kernel) rfl ?_
          exact law_6 C0 hn j hj2 x y d g hX hf9 hP hD hS hl kk
        · refine cx_tsw (tgt := 511) (off := 462) hx hb d_LA_law_49 (by omega) (by decide +kernel) rfl ?_
          exact law_7 C0 hn j hj2 x y d g hX hf9 hP hD hS hl kk
        · refine cx_tsw (tgt := 574) (off := 525) hx hb d_LA_law_49 (by omega) (by decide +kernel) rfl ?_
          exact law_8 C0 hn j hj2 x y d g hX hf9 hP hD hS hl kk
        · refine cx_tsw (tgt := 599) (off := 550) hx hb d_LA_law_49 (by omega) (by decide +kernel) rfl ?_
          exact law_9 C0 hn j hj2 x y d g hX hf9 hP hD hS hl kk
        · refine cx_tsw (tgt := 667) (off := 618) hx hb d_LA_law_49 (by omega) (by decide +kernel) rfl ?_
          exact law_10 C0 hn j hj2 x y d g hX hf9 hP hD hS hl kk
        · refine cx_tsw (tgt := 735) (off := 686) hx hb d_LA_law_49 (by omega) (by decide +kernel) rfl ?_
          exact law_11 C0 hn j hj2 x y d g hX hf9 hP hD hS hl kk
        · refine cx_tsw (tgt := 790) (off := 741) hx hb d_LA_law_49 (by omega) (by decide +kernel) rfl ?_
          exact law_12 C0 hn j hj2 x y d g hX hf9 hP hD hS hl kk
        · refine cx_tsw (tgt := 815) (off := 766) hx hb d_LA_law_49 (by omega) (by decide +kernel) rfl ?_
          exact W.widen (k := cells + 1) (n := slots + 6) (by omega) (by omega) (kk x y d g _ _ _ hX hP hD hS hl)
        · refine cx_tsw (tgt := 815) (off := 766) hx hb d_LA_law_49 (by omega) (by decide +kernel) rfl ?_
          exact W.widen (k := cells + 1) (n := slots + 6) (by omega) (by omega) (kk x y d g _ _ _ hX hP hD hS hl)
        · refine cx_tsw (tgt := 815) (off := 766) hx hb d_LA_law_49 (by omega) (by decide +kernel) rfl ?_
          exact W.widen (k := cells + 1) (n := slots + 6) (by omega) (by omega) (kk x y d g _ _ _ hX hP hD hS hl)
    refine kk (fun h5 x y d g H locs ls hX hP hD hS hl => ?_)
    refine cx_iinc (k := 0) (lv' := laL (j + 5) q qm o b) hx hb d_LA_law_815 hl rfl (by decide) rfl (fun ls hl => ?_)
    refine lv_goto (tgt := 33) hx hb d_LA_law_818 rfl ?_
    exact ih (j + 5) x y d g _ _ _ _ _ (by omega) hX (by omega) hP hD hS hl
end LAW2
