/-! the Processor's operations, third part: cards, rows, addresses -/
theorem gof_ok (g : Int) {x : SX} (h : okX x) : okX (gof g x) := by
  unfold gof
  split
  · exact h
  · exact goS_ok h
theorem up13_ok {x : SX} {z : Int} (h : okX x) (hz : -1 ≤ z ∧ z ≤ 16000) : okX (up x 13 (cst z)) := ⟨h.1, (show okR (x 11 0) (x 12 0) z (x 14 0) (x 15 0) (x 16 0) (x 17 0) (x 18 0) (x 19 0) (x 20 0) by have h8 := h.2.1; unfold okR at h8 ⊢; omega), h.2.2⟩
theorem cx_ofWF {l : Launch} {y : MethodName} {ws ws' : List Cond} {rm : Room} {Pc : Array Value → State → Prop} {Qc : Array Value → State → Outcome → State → Prop} {mc ms : Nat} {free : Addr → Prop} {cc : ByteArray} {maxL : Nat} {ret : Option FieldType}
    (hy : plainFor y = true) (hw : ws = Cond.code y cc maxL ret :: ws')
    (body : ∀ p e s m args below meth c s₁, BodyLoose p l y (headSpec ws rm) cc maxL ret e s m args below meth c s₁ → c.maxLocals = maxL → Pc args s →
      W p l e (headSpec ws rm).room s m args below meth c s.heap [] 0 0 (MQ below Qc args s mc ms free) (entryFrame m args maxL)) : Met l y ws rm Pc Qc mc ms free := by
  refine MetFree.of_bodySF (code := cc) (maxLocals := maxL) (ret := ret) hy ?_ ?_
  · intro args s m h hn
    obtain ⟨meth, c, h1, h2, h3, h4, h5, h6, -, -⟩ := Cond.code_spec hn (atoms_spec (ws := ws) h _ (by rw [hw]; exact List.mem_cons_self))
    exact ⟨meth, c, h1, h2, h3, h4, h5, h6⟩
  · intro p e s m args below meth c s₁ B hml hP _
    have hh0 : s₁.heap = s.heap := by rw [B.state]; rfl
    obtain ⟨t, a1, o, b1, b2, b3⟩ := body p e s m args below meth c s₁ B hml hP s₁ hh0 (Stand.of_body B)
    exact ⟨t, o, a1, b1, b2, ⟨b3.1, b3.2⟩⟩
theorem cx_inIF {l : Launch} {y : MethodName} {ws ws' : List Cond} {rm : Room} {D : va_G} {cl : List vw_C} {tys : List (ClassId × FieldType)} {nw : List Cond} {sz : Nat} {wc : va_W} {av : List Value} {cc : ByteArray} {maxL : Nat} {S : Type} {post : Int32 → S → Prop} {wn : S → va_W} (hy : plainFor y = true) (hw : ws = Cond.code y cc maxL (some .int) :: ws') (hn : (lg_sl av).length ≤ maxL)
    (body : ∀ (p : Program) (e : Env) (s : State) (m : MethodId) (below : List Frame) (meth : Method) (c : Code) (ls : Array Slot) (A : Nat → Prop) (Q : State → Prop), p.tables.exec = Jvm.exec → c.code = cc → c.maxLocals = maxL → (∀ w ∈ ws', w.before av.toArray s = true) → s.vm.findClass y.cls = some m.cls →
      (∀ {H : Heap} {locs : List Loc} {ls : Array Slot} {pc : Nat} {v : Int32} (u : S), post v u → va_P D cl (wn u) H → va_D A (wn u) → va_S A s.heap H locs → decode cc pc = .ok (.ireturn, 1) → W p l e rm s m av.toArray below meth c H locs 0 0 Q (F0 m pc ls [.int v])) →
      va_P D cl wc s.heap → va_K D cl tys s → va_D A wc → cx_N nw s → va_S A s.heap s.heap [] → (∀ q : Nat, s.heap.size ≤ q → A q) → lv_has ls maxL (lv_args 0 av) → W p l e rm s m av.toArray below meth c s.heap [] 0 0 Q (F0 m 0 ls [])) :
    MI l y ws rm D cl tys nw sz av wc post wn := by
  refine cx_ofWF (cc := cc) (maxL := maxL) (ret := some .int) hy hw ?_
  intro p e s m args below meth c s₁ B hml hv
  obtain ⟨rfl, rfl, hP, hK, hD0, hN⟩ := hv
  have hl := lv_entry av (n := maxL) hn
  rw [lg_entry_eq]
  generalize (lg_sl av ++ List.replicate (maxL - (lg_sl av).length) Slot.unset).toArray = ls at hl ⊢
  exact body p e s m below meth c ls (va_A wc s.heap.size) _ B.exec B.bytes hml (fun w h => atoms_spec (ws := ws) B.pre w (by rw [hw]; exact List.mem_cons_of_mem _ h)) (findClass_of_methodNamed B.named) (fun u hq hP hD hS hdg => cx_iret B.exec B.bytes B.returns B.notSynchronized u hq hP hD hS hdg) hP hK (hD0.self) hN va_S.rf (fun q h => Or.inr h) hl
def rdcS (g : Int) (x : SX) : Int × SX := if x 18 0 - x 17 0 = 0 then (4, x) else (0, gof g (up (up (up (up x 0 (spa (x 0) 1 80 (fun k => x 2 (x 17 0 * 80 + k)))) 16 (cst (if x 18 0 - (x 17 0 + 1) = 0 then 1 else 0))) 17 (cst (x 17 0 + 1))) 13 (cst 81)))
/-- a row more of a pile: f its columns, fl how many rows, of so many positions from an area on -/
def filS (f fl : Nat) (cap area wid g : Int) (x : SX) : Int × SX := if cap ≤ x fl 0 then (5, x) else (0, gof g (up (up (up x f (spa (x f) (x fl 0 * wid) wid (fun k => x 0 (area + k)))) fl (cst (x fl 0 + 1))) 13 (cst (area + wid))))
theorem nx_xor (a b : Nat) : nI a ^^^ nI b = nI (a ^^^ b) := by
  apply Int32.toBitVec_inj.1
  show BitVec.ofNat 32 a ^^^ BitVec.ofNat 32 b = BitVec.ofNat 32 (a ^^^ b)
  apply BitVec.eq_of_getLsbD_eq
  intro i hi
  simp [hi]
def xo (y : Int) : Int := ((y.toNat ^^^ 16000 : Nat) : Int)
theorem xo_in {y : Int} (h : 0 ≤ y ∧ y ≤ 16000) : 0 ≤ xo y ∧ xo y < 2147483648 := by
  have h1 : y.toNat ^^^ 16000 < 2 ^ 16 := Nat.xor_lt_two_pow (by omega) (by decide)
  unfold xo
  omega
theorem xor_nn {y : Int} (h : 0 ≤ y ∧ y ≤ 16000) : iI y ^^^ iI 16000 = iI (xo y) := by
  have h1 := nx_xor y.toNat 16000
  rw [← iI_nI, ← iI_nI, ← iI_nI, Int.toNat_of_nonneg h.1] at h1
  exact h1
theorem okC_wad {ch mk : Int → Int} {z y : Int} (h : okC ch mk) (hy : 0 ≤ y ∧ y < 16000) : okC (wad ch z y) mk := by
  have h1 := wrt_in (v := y / 100 % 10) (by omega)
  have h2 := wrt_in (v := y / 10 % 10) (by omega)
  have h3 := wrt_in (v := y % 10) (by omega)
  exact okC_fu (okC_fu (okC_fu h (by omega)) (by omega)) (by omega)
def staS (n y : Int) (x : SX) : Int × SX := if (0 ≤ x 12 0 ∧ x 12 0 < n) ∧ 2 ≤ x 12 0 then (0, up (up x 0 (wad (x 0) (x 12 0) (y % 16000))) 12 (cst (x 12 0 - 3))) else (2, x)
theorem adr_in {ch mk : Int → Int} (h : okC ch mk) (z : Int) : 0 ≤ adr ch z ∧ adr ch z ≤ 15999 := by
  have h1 := vl_in (h.1 z)
  have h2 := vl_in (h.1 (z + 1))
  have h3 := vl_in (h.1 (z + 2))
  have h4 := h.1 z
  have h5 := h.1 (z + 2)
  unfold adr
  omega
def takA (k : Int) (ch : Int → Int) (i : Int) (y : SX) : SX := if 4 ≤ k then up y 12 (cst (adr ch (i + 1))) else y
def takB (o k : Int) (ch : Int → Int) (i : Int) (y : SX) : SX := if 7 ≤ k then up y 13 (cst (adr ch (i + 4))) else if 4 ≤ k ∧ ¬ (o = 36 ∨ o = 35 ∨ o = 52 ∨ o = 24 ∨ o = 40 ∨ o = 56) then up y 13 (cst (adr ch (i + 1))) else y
def takS (o k : Int) (x : SX) : SX := takB o k (x 0) (x 11 0) (takA k (x 0) (x 11 0) (up x 11 (cst (x 11 0 + k))))

set_option maxHeartbeats 4000000 in
set_option maxRecDepth 100000 in
theorem c_PR_readCard (l : Launch) (D : va_G) (T : Nat → ClassId) (sz : Nat) (q : Nat → Nat) (n : Nat) (hn : 400 ≤ n ∧ n ≤ 2000) (d : Int → Int) (x : SX) (hX : okX x) (g : Int) (hg : g = 0 ∨ g = 1) : MI l y_PR_readCard (wY y_PR_readCard b_PR_readCard 3 (some .int)) (rmK 2) D vwCl (tyL T) nwL sz [.ref (q 9), .int (iI (g))] (prW T q n d (x 0) (x 1) (x 2) (x 3) (x 4) (x 11 0) (x 12 0) (x 13 0) (x 14 0) (x 15 0) (x 16 0) (x 17 0) (x 18 0) (x 19 0) (x 20 0)) (fun r u => pst (rdcS g x) r u) (fun u => prX T q n d u) := by
  refine cx_inI (by decide) rfl (Nat.le_of_ble_eq_true rfl) ?_
  intro p e s m below meth cd ls A Q hx hb hml hT hown hret hP hK hD hN hS hA hl
  have hown : s.vm.findClass R_PR = some m.cls := hown
  have hl : lv_has ls 3 [(0, .ref (q 9)), (1, .int (iI (g)))] := hl
  have hC := hX.1
  have hR0 := hX.2.1
  have hF := hX.2.2
  unfold okR at hR0
  refine lv_aload_n hx hb d_PR_readCard_0 rfl (lv_at hl 0 rfl) ?_
  refine cx_cI (ws2 := fun _ => prW T q n d (x 0) (x 1) (x 2) (x 3) (x 4) (x 11 0) (x 12 0) (x 13 0) (x 14 0) (x 15 0) (x 16 0) (x 17 0) (x 18 0) (x 19 0) (x 20 0)) (cx_rV (q0 := 0) (ci := 2) (rest := []) (As := []) hx hb hml hown hT hK hN hP hD hl.1 tw_515 k_PR_cardsToRead (c_PR_cardsToRead l D T s.heap.size q n hn d x hX ) ⟨by decide, by decide⟩ ⟨rfl, rfl⟩ [0, 1, 2, 3, 4, 5, 6, 7, 8, 9, 10] (by decide) rfl rfl rfl rfl rfl (Nat.le_of_ble_eq_true rfl) ⟨Nat.zero_le _, Nat.zero_le _⟩ d_PR_readCard_1) hP hD hS hA [0, 1, 2, 3, 4, 5, 6, 7, 8, 9, 10] [] [0, 1, 2, 3, 4, 5, 6, 7, 8, 9, 10] rfl (wr := []) rfl (by decide) (by decide) (fun _ => rfl) (by decide) (fun r u_ H locs hq1 hP hD hS => ?_)
  subst hq1
  refine cx_eq (y := iI ((x 18 0) - (x 17 0))) rfl ?_
  refine cx_if_ne (tgt := 9) hx hb d_PR_readCard_4 rfl (by omega) (fun h4 => ?_) (fun h4 => ?_)
  · refine cx_iconst hx hb d_PR_readCard_9 ?_
    refine lv_istore_n (lv' := [(2, .int (iI (1))), (0, .ref (q 9)), (1, .int (iI (g)))]) hx hb d_PR_readCard_10 rfl hl (by decide) rfl (fun ls hl => ?_)
    have L1 : ∀ (k_ : Nat) (j : Int) (H : Heap) (locs : List Loc) (ls : Array Slot), (1 ≤ j ∧ j ≤ 81 ∧ 81 - j < k_) → (okC (spa (x 0) 1 (j - 1) (fun k => x 2 (x 17 0 * 80 + k))) (x 1)) → va_P D vwCl (prW T q n d (spa (x 0) 1 (j - 1) (fun k => x 2 (x 17 0 * 80 + k))) (x 1) (x 2) (x 3) (x 4) (x 11 0) (x 12 0) (x 13 0) (x 14 0) (x 15 0) (x 16 0) (x 17 0) (x 18 0) (x 19 0) (x 20 0)) H → va_D A (prW T q n d (spa (x 0) 1 (j - 1) (fun k => x 2 (x 17 0 * 80 + k))) (x 1) (x 2) (x 3) (x 4) (x 11 0) (x 12 0) (x 13 0) (x 14 0) (x 15 0) (x 16 0) (x 17 0) (x 18 0) (x 19 0) (x 20 0)) → va_S A s.heap H locs → lv_has ls 3 [(2, .int (iI (j))), (0, .ref (q 9)), (1, .int (iI (g)))] → W p l e (rmK 2) s m ([.ref (q 9), .int (iI (g))] : List Value).toArray below meth cd H locs 0 0 Q (F0 m 11 ls []) := by
      intro k_
      induction k_ with
      | zero => intro j H locs ls hj hC _ _ _ _; exact absurd hj (by omega)
      | succ k_ ih1 =>
        intro j H locs ls hj hC hP hD hS hl
        refine lv_iload_n hx hb d_PR_readCard_11 rfl (lv_at hl 0 rfl) ?_
        refine cx_bipush hx hb d_PR_readCard_12 rfl ?_
        refine cx_icmp_gt (tgt := 47) hx hb d_PR_readCard_14 rfl (by omega) (by omega) (fun h14 => ?_) (fun h14 => ?_)
        · have e9 : j - 1 = 80 := by omega
          rw [e9] at hP hD hC
          refine lv_aload_n hx hb d_PR_readCard_47 rfl (lv_at hl 1 rfl) ?_
          refine lv_dup hx hb d_PR_readCard_48 rfl ?_
          refine va_get (D := D) (ci := 2) (v := .int (iI (x 17 0))) (C := R_PR) (T := T_PR) (N := 12) hx hb hT lays_PR hown hK hP 0 rfl rfl 11 (by decide) (hT _ tw_95) (fun _ h9 => h9) rfl d_PR_readCard_49 ?_
          refine cx_iconst hx hb d_PR_readCard_52 ?_
          refine cx_iadd hx hb d_PR_readCard_53 ?_
          refine va_put (D := D) (ci := 2) (v := .int (iI ((x 17 0) + 1))) (ty := .int) (C := R_PR) (T := T_PR) (N := 12) hx hb hT lays_PR t_PR t_PR_ok n_PR hown hK hP hD hS 0 rfl rfl 11 (by decide) (hT _ tw_95) (fun _ h9 => h9) rfl (by decide +kernel) rfl rfl (Nat.le_of_ble_eq_true rfl) d_PR_readCard_54 (fun H locs hP hD hS => ?_)
          have hP : va_P D vwCl (prW T q n d (spa (x 0) 1 (80) (fun k => x 2 (x 17 0 * 80 + k))) (x 1) (x 2) (x 3) (x 4) (x 11 0) (x 12 0) (x 13 0) (x 14 0) (x 15 0) (x 16 0) ((x 17 0) + 1) (x 18 0) (x 19 0) (x 20 0)) H := hP
          have hD : va_D A (prW T q n d (spa (x 0) 1 (80) (fun k => x 2 (x 17 0 * 80 + k))) (x 1) (x 2) (x 3) (x 4) (x 11 0) (x 12 0) (x 13 0) (x 14 0) (x 15 0) (x 16 0) ((x 17 0) + 1) (x 18 0) (x 19 0) (x 20 0)) := hD
          refine lv_aload_n hx hb d_PR_readCard_57 rfl (lv_at hl 1 rfl) ?_
          refine lv_aload_n hx hb d_PR_readCard_58 rfl (lv_at hl 1 rfl) ?_
          refine cx_cI (ws2 := fun _ => prW T q n d (spa (x 0) 1 (80) (fun k => x 2 (x 17 0 * 80 + k))) (x 1) (x 2) (x 3) (x 4) (x 11 0) (x 12 0) (x 13 0) (x 14 0) (x 15 0) (x 16 0) ((x 17 0) + 1) (x 18 0) (x 19 0) (x 20 0)) (cx_rV (q0 := 0) (ci := 2) (rest := [.ref (q 9)]) (As := []) hx hb hml hown hT hK hN hP hD hl.1 tw_515 k_PR_cardsToRead (c_PR_cardsToRead l D T H.size q n hn d (up (up x 0 (spa (x 0) 1 (80) (fun k => x 2 (x 17 0 * 80 + k)))) 17 (cst ((x 17 0) + 1))) (show okX (up (up x 0 (spa (x 0) 1 (80) (fun k => x 2 (x 17 0 * 80 + k)))) 17 (cst ((x 17 0) + 1))) from ⟨hC, (show okR (x 11 0) (x 12 0) (x 13 0) (x 14 0) (x 15 0) (x 16 0) ((x 17 0) + 1) (x 18 0) (x 19 0) (x 20 0) by have h8 := hX.2.1; unfold okR at h8 ⊢; omega), hX.2.2⟩) ) ⟨by decide, by decide⟩ ⟨rfl, rfl⟩ [0, 1, 2, 3, 4, 5, 6, 7, 8, 9, 10] (by decide) rfl rfl rfl rfl rfl (Nat.le_of_ble_eq_true rfl) ⟨Nat.zero_le _, Nat.zero_le _⟩ d_PR_readCard_59) hP hD hS hA [0, 1, 2, 3, 4, 5, 6, 7, 8, 9, 10] [] [0, 1, 2, 3, 4, 5, 6, 7, 8, 9, 10] rfl (wr := []) rfl (by decide) (by decide) (fun _ => rfl) (by decide) (fun r u_ H locs hq59 hP hD hS => ?_)
          subst hq59
          refine cx_eq (y := iI ((x 18 0) - ((x 17 0) + 1))) rfl ?_
          refine cx_if_ne (tgt := 69) hx hb d_PR_readCard_62 rfl (by omega) (fun h62 => ?_) (fun h62 => ?_)
          · refine cx_iconst hx hb d_PR_readCard_69 ?_
            refine va_put (D := D) (ci := 2) (v := .int (iI (0))) (ty := .boolean) (C := R_PR) (T := T_PR) (N := 12) hx hb hT lays_PR t_PR t_PR_ok n_PR hown hK hP hD hS 0 rfl rfl 10 (by decide) (hT _ tw_94) (fun _ h9 => h9) rfl (by decide +kernel) rfl rfl (Nat.le_of_ble_eq_true rfl) d_PR_readCard_70 (fun H locs hP hD hS => ?_)
            have hP : va_P D vwCl (prW T q n d (spa (x 0) 1 (80) (fun k => x 2 (x 17 0 * 80 + k))) (x 1) (x 2) (x 3) (x 4) (x 11 0) (x 12 0) (x 13 0) (x 14 0) (x 15 0) 0 ((x 17 0) + 1) (x 18 0) (x 19 0) (x 20 0)) H := hP
            have hD : va_D A (prW T q n d (spa (x 0) 1 (80) (fun k => x 2 (x 17 0 * 80 + k))) (x 1) (x 2) (x 3) (x 4) (x 11 0) (x 12 0) (x 13 0) (x 14 0) (x 15 0) 0 ((x 17 0) + 1) (x 18 0) (x 19 0) (x 20 0)) := hD
            refine lv_aload_n hx hb d_PR_readCard_73 rfl (lv_at hl 1 rfl) ?_
            refine cx_bipush hx hb d_PR_readCard_74 rfl ?_
            refine lv_iload_n hx hb d_PR_readCard_76 rfl (lv_at hl 2 rfl) ?_
            refine cx_cV (ws2 := fun _ => prW T q n d ((gof g (up (up (up (up x 0 (spa (x 0) 1 (80) (fun k => x 2 (x 17 0 * 80 + k)))) 16 (cst 0)) 17 (cst ((x 17 0) + 1))) 13 (cst 81))) 0) ((gof g (up (up (up (up x 0 (spa (x 0) 1 (80) (fun k => x 2 (x 17 0 * 80 + k)))) 16 (cst 0)) 17 (cst ((x 17 0) + 1))) 13 (cst 81))) 1) ((gof g (up (up (up (up x 0 (spa (x 0) 1 (80) (fun k => x 2 (x 17 0 * 80 + k)))) 16 (cst 0)) 17 (cst ((x 17 0) + 1))) 13 (cst 81))) 2) ((gof g (up (up (up (up x 0 (spa (x 0) 1 (80) (fun k => x 2 (x 17 0 * 80 + k)))) 16 (cst 0)) 17 (cst ((x 17 0) + 1))) 13 (cst 81))) 3) ((gof g (up (up (up (up x 0 (spa (x 0) 1 (80) (fun k => x 2 (x 17 0 * 80 + k)))) 16 (cst 0)) 17 (cst ((x 17 0) + 1))) 13 (cst 81))) 4) ((gof g (up (up (up (up x 0 (spa (x 0) 1 (80) (fun k => x 2 (x 17 0 * 80 + k)))) 16 (cst 0)) 17 (cst ((x 17 0) + 1))) 13 (cst 81))) 11 0) ((gof g (up (up (up (up x 0 (spa (x 0) 1 (80) (fun k => x 2 (x 17 0 * 80 + k)))) 16 (cst 0)) 17 (cst ((x 17 0) + 1))) 13 (cst 81))) 12 0) ((gof g (up (up (up (up x 0 (spa (x 0) 1 (80) (fun k => x 2 (x 17 0 * 80 + k)))) 16 (cst 0)) 17 (cst ((x 17 0) + 1))) 13 (cst 81))) 13 0) ((gof g (up (up (up (up x 0 (spa (x 0) 1 (80) (fun k => x 2 (x 17 0 * 80 + k)))) 16 (cst 0)) 17 (cst ((x 17 0) + 1))) 13 (cst 81))) 14 0) ((gof g (up (up (up (up x 0 (spa (x 0) 1 (80) (fun k => x 2 (x 17 0 * 80 + k)))) 16 (cst 0)) 17 (cst ((x 17 0) + 1))) 13 (cst 81))) 15 0) ((gof g (up (up (up (up x 0 (spa (x 0) 1 (80) (fun k => x 2 (x 17 0 * 80 + k)))) 16 (cst 0)) 17 (cst ((x 17 0) + 1))) 13 (cst 81))) 16 0) ((gof g (up (up (up (up x 0 (spa (x 0) 1 (80) (fun k => x 2 (x 17 0 * 80 + k)))) 16 (cst 0)) 17 (cst ((x 17 0) + 1))) 13 (cst 81))) 17 0) ((gof g (up (up (up (up x 0 (spa (x 0) 1 (80) (fun k => x 2 (x 17 0 * 80 + k)))) 16 (cst 0)) 17 (cst ((x 17 0) + 1))) 13 (cst 81))) 18 0) ((gof g (up (up (up (up x 0 (spa (x 0) 1 (80) (fun k => x 2 (x 17 0 * 80 + k)))) 16 (cst 0)) 17 (cst ((x 17 0) + 1))) 13 (cst 81))) 19 0) ((gof g (up (up (up (up x 0 (spa (x 0) 1 (80) (fun k => x 2 (x 17 0 * 80 + k)))) 16 (cst 0)) 17 (cst ((x 17 0) + 1))) 13 (cst 81))) 20 0)) (cx_rV (q0 := 0) (ci := 2) (rest := []) (As := [.int (iI (81)), .int (iI (g))]) hx hb hml hown hT hK hN hP hD hl.1 tw_520 k_PR_endTransfer (c_PR_endTransfer l D T H.size q n hn d (up (up (up x 0 (spa (x 0) 1 (80) (fun k => x 2 (x 17 0 * 80 + k)))) 16 (cst 0)) 17 (cst ((x 17 0) + 1))) (show okX (up (up (up x 0 (spa (x 0) 1 (80) (fun k => x 2 (x 17 0 * 80 + k)))) 16 (cst 0)) 17 (cst ((x 17 0) + 1))) from ⟨hC, (show okR (x 11 0) (x 12 0) (x 13 0) (x 14 0) (x 15 0) 0 ((x 17 0) + 1) (x 18 0) (x 19 0) (x 20 0) by have h8 := hX.2.1; unfold okR at h8 ⊢; omega), hX.2.2⟩) 81 (by omega) g (by omega)) ⟨by decide, by decide⟩ ⟨rfl, rfl⟩ [0, 1, 2, 3, 4, 5, 6, 7, 8, 9, 10] (by decide) rfl rfl rfl rfl rfl (Nat.le_of_ble_eq_true rfl) ⟨Nat.zero_le _, Nat.zero_le _⟩ d_PR_readCard_77) hP hD hS hA [0, 1, 2, 3, 4, 5, 6, 7, 8, 9, 10] [] [0, 1, 2, 3, 4, 5, 6, 7, 8, 9, 10] rfl (wr := []) rfl (by decide) (by decide) (fun _ => rfl) (by decide) (fun u_ H locs hq77 hP hD hS => ?_)
            refine cx_iconst hx hb d_PR_readCard_80 ?_
            exact hret ((gof g (up (up (up (up x 0 (spa (x 0) 1 (80) (fun k => x 2 (x 17 0 * 80 + k)))) 16 (cst 0)) 17 (cst ((x 17 0) + 1))) 13 (cst 81)))) (pst_of (by unfold rdcS; rw [if_neg h4, if_neg h62]) (gof_ok g (up13_ok (show okX (up (up (up x 0 (spa (x 0) 1 (80) (fun k => x 2 (x 17 0 * 80 + k)))) 16 (cst 0)) 17 (cst ((x 17 0) + 1))) from ⟨hC, (show okR (x 11 0) (x 12 0) (x 13 0) (x 14 0) (x 15 0) 0 ((x 17 0) + 1) (x 18 0) (x 19 0) (x 20 0) by have h8 := hX.2.1; unfold okR at h8 ⊢; omega), hX.2.2⟩) (show -1 ≤ 81 ∧ 81 ≤ 16000 by omega)))) hP hD hS d_PR_readCard_81
          · refine cx_iconst hx hb d_PR_readCard_65 ?_
            refine lv_goto (tgt := 70) hx hb d_PR_readCard_66 rfl ?_
            refine va_put (D := D) (ci := 2) (v := .int (iI (1))) (ty := .boolean) (C := R_PR) (T := T_PR) (N := 12) hx hb hT lays_PR t_PR t_PR_ok n_PR hown hK hP hD hS 0 rfl rfl 10 (by decide) (hT _ tw_94) (fun _ h9 => h9) rfl (by decide +kernel) rfl rfl (Nat.le_of_ble_eq_true rfl) d_PR_readCard_70 (fun H locs hP hD hS => ?_)
            have hP : va_P D vwCl (prW T q n d (spa (x 0) 1 (80) (fun k => x 2 (x 17 0 * 80 + k))) (x 1) (x 2) (x 3) (x 4) (x 11 0) (x 12 0) (x 13 0) (x 14 0) (x 15 0) 1 ((x 17 0) + 1) (x 18 0) (x 19 0) (x 20 0)) H := hP
            have hD : va_D A (prW T q n d (spa (x 0) 1 (80) (fun k => x 2 (x 17 0 * 80 + k))) (x 1) (x 2) (x 3) (x 4) (x 11 0) (x 12 0) (x 13 0) (x 14 0) (x 15 0) 1 ((x 17 0) + 1) (x 18 0) (x 19 0) (x 20 0)) := hD
            refine lv_aload_n hx hb d_PR_readCard_73 rfl (lv_at hl 1 rfl) ?_
            refine cx_bipush hx hb d_PR_readCard_74 rfl ?_
            refine lv_iload_n hx hb d_PR_readCard_76 rfl (lv_at hl 2 rfl) ?_
            refine cx_cV (ws2 := fun _ => prW T q n d ((gof g (up (up (up (up x 0 (spa (x 0) 1 (80) (fun k => x 2 (x 17 0 * 80 + k)))) 16 (cst 1)) 17 (cst ((x 17 0) + 1))) 13 (cst 81))) 0) ((gof g (up (up (up (up x 0 (spa (x 0) 1 (80) (fun k => x 2 (x 17 0 * 80 + k)))) 16 (cst 1)) 17 (cst ((x 17 0) + 1))) 13 (cst 81))) 1) ((gof g (up (up (up (up x 0 (spa (x 0) 1 (80) (fun k => x 2 (x 17 0 * 80 + k)))) 16 (cst 1)) 17 (cst ((x 17 0) + 1))) 13 (cst 81))) 2) ((gof g (up (up (up (up x 0 (spa (x 0) 1 (80) (fun k => x 2 (x 17 0 * 80 + k)))) 16 (cst 1)) 17 (cst ((x 17 0) + 1))) 13 (cst 81))) 3) ((gof g (up (up (up (up x 0 (spa (x 0) 1 (80) (fun k => x 2 (x 17 0 * 80 + k)))) 16 (cst 1)) 17 (cst ((x 17 0) + 1))) 13 (cst 81))) 4) ((gof g (up (up (up (up x 0 (spa (x 0) 1 (80) (fun k => x 2 (x 17 0 * 80 + k)))) 16 (cst 1)) 17 (cst ((x 17 0) + 1))) 13 (cst 81))) 11 0) ((gof g (up (up (up (up x 0 (spa (x 0) 1 (80) (fun k => x 2 (x 17 0 * 80 + k)))) 16 (cst 1)) 17 (cst ((x 17 0) + 1))) 13 (cst 81))) 12 0) ((gof g (up (up (up (up x 0 (spa (x 0) 1 (80) (fun k => x 2 (x 17 0 * 80 + k)))) 16 (cst 1)) 17 (cst ((x 17 0) + 1))) 13 (cst 81))) 13 0) ((gof g (up (up (up (up x 0 (spa (x 0) 1 (80) (fun k => x 2 (x 17 0 * 80 + k)))) 16 (cst 1)) 17 (cst ((x 17 0) + 1))) 13 (cst 81))) 14 0) ((gof g (up (up (up (up x 0 (spa (x 0) 1 (80) (fun k => x 2 (x 17 0 * 80 + k)))) 16 (cst 1)) 17 (cst ((x 17 0) + 1))) 13 (cst 81))) 15 0) ((gof g (up (up (up (up x 0 (spa (x 0) 1 (80) (fun k => x 2 (x 17 0 * 80 + k)))) 16 (cst 1)) 17 (cst ((x 17 0) + 1))) 13 (cst 81))) 16 0) ((gof g (up (up (up (up x 0 (spa (x 0) 1 (80) (fun k => x 2 (x 17 0 * 80 + k)))) 16 (cst 1)) 17 (cst ((x 17 0) + 1))) 13 (cst 81))) 17 0) ((gof g (up (up (up (up x 0 (spa (x 0) 1 (80) (fun k => x 2 (x 17 0 * 80 + k)))) 16 (cst 1)) 17 (cst ((x 17 0) + 1))) 13 (cst 81))) 18 0) ((gof g (up (up (up (up x 0 (spa (x 0) 1 (80) (fun k => x 2 (x 17 0 * 80 + k)))) 16 (cst 1)) 17 (cst ((x 17 0) + 1))) 13 (cst 81))) 19 0) ((gof g (up (up (up (up x 0 (spa (x 0) 1 (80) (fun k => x 2 (x 17 0 * 80 + k)))) 16 (cst 1)) 17 (cst ((x 17 0) + 1))) 13 (cst 81))) 20 0)) (cx_rV (q0 := 0) (ci := 2) (rest := []) (As := [.int (iI (81)), .int (iI (g))]) hx hb hml hown hT hK hN hP hD hl.1 tw_520 k_PR_endTransfer (c_PR_endTransfer l D T H.size q n hn d (up (up (up x 0 (spa (x 0) 1 (80) (fun k => x 2 (x 17 0 * 80 + k)))) 16 (cst 1)) 17 (cst ((x 17 0) + 1))) (show okX (up (up (up x 0 (spa (x 0) 1 (80) (fun k => x 2 (x 17 0 * 80 + k)))) 16 (cst 1)) 17 (cst ((x 17 0) + 1))) from ⟨hC, (show okR (x 11 0) (x 12 0) (x 13 0) (x 14 0) (x 15 0) 1 ((x 17 0) + 1) (x 18 0) (x 19 0) (x 20 0) by have h8 := hX.2.1; unfold okR at h8 ⊢; omega), hX.2.2⟩) 81 (by omega) g (by omega)) ⟨by decide, by decide⟩ ⟨rfl, rfl⟩ [0, 1, 2, 3, 4, 5, 6, 7, 8, 9, 10] (by decide) rfl rfl rfl rfl rfl (Nat.le_of_ble_eq_true rfl) ⟨Nat.zero_le _, Nat.zero_le _⟩ d_PR_readCard_77) hP hD hS hA [0, 1, 2, 3, 4, 5, 6, 7, 8, 9, 10] [] [0, 1, 2, 3, 4, 5, 6, 7, 8, 9, 10] rfl (wr := []) rfl (by decide) (by decide) (fun _ => rfl) (by decide) (fun u_ H locs hq77 hP hD hS => ?_)
            refine cx_iconst hx hb d_PR_readCard_80 ?_
            exact hret ((gof g (up (up (up (up x 0 (spa (x 0) 1 (80) (fun k => x 2 (x 17 0 * 80 + k)))) 16 (cst 1)) 17 (cst ((x 17 0) + 1))) 13 (cst 81)))) (pst_of (by unfold rdcS; rw [if_neg h4, if_pos h62]) (gof_ok g (up13_ok (show okX (up (up (up x 0 (spa (x 0) 1 (80) (fun k => x 2 (x 17 0 * 80 + k)))) 16 (cst 1)) 17 (cst ((x 17 0) + 1))) from ⟨hC, (show okR (x 11 0) (x 12 0) (x 13 0) (x 14 0) (x 15 0) 1 ((x 17 0) + 1) (x 18 0) (x 19 0) (x 20 0) by have h8 := hX.2.1; unfold okR at h8 ⊢; omega), hX.2.2⟩) (show -1 ≤ 81 ∧ 81 ≤ 16000 by omega)))) hP hD hS d_PR_readCard_81
        · have hv9 := hF.1 (x 17 0 * 80 + j - 1)
          refine lv_aload_n hx hb d_PR_readCard_17 rfl (lv_at hl 1 rfl) ?_
          refine va_get (D := D) (ci := 2) (v := .ref (q 1)) (C := R_PR) (T := T_PR) (N := 12) hx hb hT lays_PR hown hK hP 0 rfl rfl 0 (by decide) (hT _ tw_78) (fun _ h9 => h9) rfl d_PR_readCard_18 ?_
          refine cx_iconst hx hb d_PR_readCard_21 ?_
          refine lv_iload_n hx hb d_PR_readCard_22 rfl (lv_at hl 0 rfl) ?_
          refine cx_iadd hx hb d_PR_readCard_23 ?_
          refine cx_iconst hx hb d_PR_readCard_24 ?_
          refine cx_isub hx hb d_PR_readCard_25 ?_
          refine lv_aload_n hx hb d_PR_readCard_26 rfl (lv_at hl 1 rfl) ?_
          refine va_get (D := D) (ci := 2) (v := .ref (q 3)) (C := R_PR) (T := T_PR) (N := 12) hx hb hT lays_PR hown hK hP 0 rfl rfl 1 (by decide) (hT _ tw_79) (fun _ h9 => h9) rfl d_PR_readCard_27 ?_
          refine lv_aload_n hx hb d_PR_readCard_30 rfl (lv_at hl 1 rfl) ?_
          refine va_get (D := D) (ci := 2) (v := .int (iI (x 17 0))) (C := R_PR) (T := T_PR) (N := 12) hx hb hT lays_PR hown hK hP 0 rfl rfl 11 (by decide) (hT _ tw_95) (fun _ h9 => h9) rfl d_PR_readCard_31 ?_
          refine lv_iload_n hx hb d_PR_readCard_34 rfl (lv_at hl 0 rfl) ?_
          refine cx_cI (ws2 := fun _ => prW T q n d (spa (x 0) 1 (j - 1) (fun k => x 2 (x 17 0 * 80 + k))) (x 1) (x 2) (x 3) (x 4) (x 11 0) (x 12 0) (x 13 0) (x 14 0) (x 15 0) (x 16 0) (x 17 0) (x 18 0) (x 19 0) (x 20 0)) (cx_rV (q0 := 1) (ci := 1) (rest := [.int (iI ((1 + j) - 1)), .ref (q 1)]) (As := [.int (iI (x 17 0)), .int (iI (j))]) hx hb hml hown hT hK hN hP hD hl.1 tw_516 k_PI_character (c_PI_character l D T H.size (q 3) (q 4) 20 80 1680 (x 2) (x 18 0) (by omega) (x 17 0) j (by omega)) ⟨by decide, by decide⟩ ⟨rfl, rfl⟩ [1, 2] (by decide) rfl rfl rfl rfl rfl (Nat.le_of_ble_eq_true rfl) ⟨Nat.zero_le _, Nat.zero_le _⟩ d_PR_readCard_35) hP hD hS hA [1, 2] [0, 3, 4, 5, 6, 7, 8, 9, 10] [0, 9, 10, 1, 2, 3, 4, 5, 6, 7, 8] rfl (wr := [(q 9, .inr (2, [.ref (q 1), .ref (q 3), .ref (q 5), .ref (q 7), .ref (q 10), .int (iI (x 11 0)), .int (iI (x 12 0)), .int (iI (x 13 0)), .int (iI (x 14 0)), .int (iI (x 15 0)), .int (iI (x 16 0)), .int (iI (x 17 0))])), (q 5, .inr (1, [.int (iI (40)), .int (iI (132)), .ref (q 6), .int (iI (x 19 0))])), (q 6, .inl (T 0, 5412, .inl (fun jj : Nat => (iF (x 3)) (jj : Int)))), (q 7, .inr (1, [.int (iI (20)), .int (iI (80)), .ref (q 8), .int (iI (x 20 0))])), (q 8, .inl (T 0, 1680, .inl (fun jj : Nat => (iF (x 4)) (jj : Int)))), (q 10, .inr (0, [.ref (q 1), .ref (q 11)])), (q 11, .inl (T 0, n, .inl (fun jj : Nat => (iF d) (jj : Int)))), (q 1, .inr (3, [.ref (q 2)])), (q 2, .inl (T 0, n, .inl (fun jj : Nat => (ceF (spa (x 0) 1 (j - 1) (fun k => x 2 (x 17 0 * 80 + k))) (x 1)) (jj : Int))))]) rfl (by decide) (by decide) (fun _ => rfl) (by decide) (fun r u_ H locs hq35 hP hD hS => ?_)
          subst hq35
          refine cx_cV (ws2 := fun _ => prW T q n d (fu (spa (x 0) 1 (j - 1) (fun k => x 2 (x 17 0 * 80 + k))) ((1 + j) - 1) ((x 2) ((x 17 0) * 80 + j - 1))) (x 1) (x 2) (x 3) (x 4) (x 11 0) (x 12 0) (x 13 0) (x 14 0) (x 15 0) (x 16 0) (x 17 0) (x 18 0) (x 19 0) (x 20 0)) (cx_rV (q0 := 9) (ci := 3) (rest := []) (As := [.int (iI ((1 + j) - 1)), .int (iI ((x 2) ((x 17 0) * 80 + j - 1)))]) hx hb hml hown hT hK hN hP hD hl.1 tw_427 k_ST_write (c_ST_write l D T H.size q n (spa (x 0) 1 (j - 1) (fun k => x 2 (x 17 0 * 80 + k))) (x 1) hn hC ((1 + j) - 1) (by omega) ((x 2) ((x 17 0) * 80 + j - 1)) (by omega)) ⟨by decide, by decide⟩ ⟨rfl, rfl⟩ [9, 10] (by decide) rfl rfl rfl rfl rfl (Nat.le_of_ble_eq_true rfl) ⟨Nat.zero_le _, Nat.zero_le _⟩ d_PR_readCard_38) hP hD hS hA [9, 10] [0, 1, 2, 3, 4, 5, 6, 7, 8] [0, 1, 2, 3, 4, 5, 6, 7, 8, 9, 10] rfl (wr := [(q 9, .inr (2, [.ref (q 1), .ref (q 3), .ref (q 5), .ref (q 7), .ref (q 10), .int (iI (x 11 0)), .int (iI (x 12 0)), .int (iI (x 13 0)), .int (iI (x 14 0)), .int (iI (x 15 0)), .int (iI (x 16 0)), .int (iI (x 17 0))])), (q 3, .inr (1, [.int (iI (20)), .int (iI (80)), .ref (q 4), .int (iI (x 18 0))])), (q 4, .inl (T 0, 1680, .inl (fun jj : Nat => (iF (x 2)) (jj : Int)))), (q 5, .inr (1, [.int (iI (40)), .int (iI (132)), .ref (q 6), .int (iI (x 19 0))])), (q 6, .inl (T 0, 5412, .inl (fun jj : Nat => (iF (x 3)) (jj : Int)))), (q 7, .inr (1, [.int (iI (20)), .int (iI (80)), .ref (q 8), .int (iI (x 20 0))])), (q 8, .inl (T 0, 1680, .inl (fun jj : Nat => (iF (x 4)) (jj : Int)))), (q 10, .inr (0, [.ref (q 1), .ref (q 11)])), (q 11, .inl (T 0, n, .inl (fun jj : Nat => (iF d) (jj : Int))))]) rfl (by decide) (by decide) (fun _ => rfl) (by decide) (fun u_ H locs hq38 hP hD hS => ?_)
          have hC : okC (fu (spa (x 0) 1 (j - 1) (fun k => x 2 (x 17 0 * 80 + k))) ((1 + j) - 1) ((x 2) ((x 17 0) * 80 + j - 1))) (x 1) := okC_fu hC (by omega)
          refine cx_iinc (k := 0) (lv' := [(2, .int (iI (j + 1))), (0, .ref (q 9)), (1, .int (iI (g)))]) hx hb d_PR_readCard_41 hl rfl (by decide) rfl (fun ls hl => ?_)
          refine lv_goto (tgt := 11) hx hb d_PR_readCard_44 rfl ?_
          rw [spa_step (F := fun k => x 2 (x 17 0 * 80 + k)) (k2 := j + 1 - 1) (by omega) (by omega) (by omega) (by show x 2 (x 17 0 * 80 + (j - 1)) = _; congr 1; omega)] at hP hD hC
          exact ih1 (j + 1) _ _ _ (by omega) hC hP hD hS (lv_sub hl [0, 1, 2] rfl)
    rw [← spa_0 (x 0) 1 (fun k => x 2 (x 17 0 * 80 + k)), show (0 : Int) = 1 - 1 from rfl] at hP hD
    exact L1 200 1 _ _ _ (by omega) (by rw [show (1 : Int) - 1 = 0 from rfl, spa_0]; exact hC) hP hD hS (lv_sub hl [0, 1, 2] rfl)
  · refine cx_iconst hx hb d_PR_readCard_7 ?_
    exact hret x (pst_of (by unfold rdcS; rw [if_pos h4]) hX) hP hD hS d_PR_readCard_8

set_option maxHeartbeats 4000000 in
set_option maxRecDepth 100000 in
theorem c_PR_fillRowL (l : Launch) (D : va_G) (T : Nat → ClassId) (sz : Nat) (q : Nat → Nat) (n : Nat) (hn : 400 ≤ n ∧ n ≤ 2000) (d : Int → Int) (x : SX) (hX : okX x) (g : Int) (hg : g = 0 ∨ g = 1) : MI l y_PR_fillRow (wY y_PR_fillRow b_PR_fillRow 5 (some .int)) (rmK 2) D vwCl (tyL T) nwL sz [.ref (q 9), .ref (q 5), .int (iI (201)), .int (iI (132)), .int (iI (g))] (prW T q n d (x 0) (x 1) (x 2) (x 3) (x 4) (x 11 0) (x 12 0) (x 13 0) (x 14 0) (x 15 0) (x 16 0) (x 17 0) (x 18 0) (x 19 0) (x 20 0)) (fun r u => pst (filS 3 19 40 201 132 g x) r u) (fun u => prX T q n d u) := by
  refine cx_inI (by decide) rfl (Nat.le_of_ble_eq_true rfl) ?_
  intro p e s m below meth cd ls A Q hx hb hml hT hown hret hP hK hD hN hS hA hl
  have hown : s.vm.findClass R_PR = some m.cls := hown
  have hl : lv_has ls 5 [(0, .ref (q 9)), (1, .ref (q 5)), (2, .int (iI (201))), (3, .int (iI (132))), (4, .int (iI (g)))] := hl
  have hC := hX.1
  have hR0 := hX.2.1
  have hF := hX.2.2
  unfold okR at hR0
  refine lv_aload_n hx hb d_PR_fillRow_0 rfl (lv_at hl 1 rfl) ?_
  refine cx_cI (ws2 := fun _ => prW T q n d (x 0) (x 1) (x 2) (x 3) (x 4) (x 11 0) (x 12 0) (x 13 0) (x 14 0) (x 15 0) (x 16 0) (x 17 0) (x 18 0) (x 19 0) (x 20 0)) (cx_rV (q0 := 3) (ci := 1) (rest := []) (As := []) hx hb hml hown hT hK hN hP hD hl.1 tw_528 k_PI_isFull (c_PI_isFull l D T s.heap.size (q 5) (q 6) 40 132 5412 (x 3) (x 19 0) (by omega) ) ⟨by decide, by decide⟩ ⟨rfl, rfl⟩ [3, 4] (by decide) rfl rfl rfl rfl rfl (Nat.le_of_ble_eq_true rfl) ⟨Nat.zero_le _, Nat.zero_le _⟩ d_PR_fillRow_1) hP hD hS hA [3, 4] [0, 1, 2, 5, 6, 7, 8, 9, 10] [0, 1, 2, 9, 10, 3, 4, 5, 6, 7, 8] rfl (wr := [(q 9, .inr (2, [.ref (q 1), .ref (q 3), .ref (q 5), .ref (q 7), .ref (q 10), .int (iI (x 11 0)), .int (iI (x 12 0)), .int (iI (x 13 0)), .int (iI (x 14 0)), .int (iI (x 15 0)), .int (iI (x 16 0)), .int (iI (x 17 0))])), (q 3, .inr (1, [.int (iI (20)), .int (iI (80)), .ref (q 4), .int (iI (x 18 0))])), (q 4, .inl (T 0, 1680, .inl (fun jj : Nat => (iF (x 2)) (jj : Int)))), (q 7, .inr (1, [.int (iI (20)), .int (iI (80)), .ref (q 8), .int (iI (x 20 0))])), (q 8, .inl (T 0, 1680, .inl (fun jj : Nat => (iF (x 4)) (jj : Int)))), (q 10, .inr (0, [.ref (q 1), .ref (q 11)])), (q 11, .inl (T 0, n, .inl (fun jj : Nat => (iF d) (jj : Int)))), (q 1, .inr (3, [.ref (q 2)])), (q 2, .inl (T 0, n, .inl (fun jj : Nat => (ceF (x 0) (x 1)) (jj : Int))))]) rfl (by decide) (by decide) (fun _ => rfl) (by decide) (fun r u_ H locs hq1 hP hD hS => ?_)
  rcases hq1 with ⟨rfl, h1⟩ | ⟨rfl, h1⟩
  · refine cx_if_eq (tgt := 9) hx hb d_PR_fillRow_4 rfl (by omega) (fun h0 => absurd h0 (by decide)) (fun _ => ?_)
    refine cx_iconst hx hb d_PR_fillRow_7 ?_
    exact hret x (pst_of (by unfold filS; rw [if_pos (by omega)]) hX) hP hD hS d_PR_fillRow_8
  · refine cx_if_eq (tgt := 9) hx hb d_PR_fillRow_4 rfl (by omega) (fun _ => ?_) (fun h0 => absurd h0 (by decide))
    refine lv_aload_n hx hb d_PR_fillRow_9 rfl (lv_at hl 1 rfl) ?_
    refine lv_aload_n hx hb d_PR_fillRow_10 rfl (lv_at hl 0 rfl) ?_
    refine va_get (D := D) (ci := 2) (v := .ref (q 1)) (C := R_PR) (T := T_PR) (N := 12) hx hb hT lays_PR hown hK hP 0 rfl rfl 0 (by decide) (hT _ tw_78) (fun _ h9 => h9) rfl d_PR_fillRow_11 ?_
    refine lv_iload_n hx hb d_PR_fillRow_14 rfl (lv_at hl 2 rfl) ?_
    refine cx_cV (ws2 := fun _ => prW T q n d (x 0) (x 1) (x 2) (spa (x 3) (x 19 0 * 132) 132 (fun k => (x 0) (201 + k))) (x 4) (x 11 0) (x 12 0) (x 13 0) (x 14 0) (x 15 0) (x 16 0) (x 17 0) (x 18 0) (x 19 0 + 1) (x 20 0)) (cx_rV (q0 := 3) (ci := 1) (rest := []) (As := [.ref (q 1), .int (iI (201))]) hx hb hml hown hT hK hN hP hD hl.1 tw_529 k_PI_copy (c_PI_copy l D T H.size (q 5) (q 6) 40 132 5412 (x 3) (x 19 0) (by omega) q n (x 0) (x 1) hn hC 201 (by omega) (by omega) (by omega)) ⟨by decide, by decide⟩ ⟨rfl, rfl⟩ [3, 4, 9, 10] (by decide) rfl rfl rfl rfl rfl (Nat.le_of_ble_eq_true rfl) ⟨Nat.zero_le _, Nat.zero_le _⟩ d_PR_fillRow_15) hP hD hS hA [3, 4, 9, 10] [0, 1, 2, 5, 6, 7, 8] [0, 1, 2, 7, 8, 3, 4, 5, 6, 9, 10] rfl (wr := [(q 9, .inr (2, [.ref (q 1), .ref (q 3), .ref (q 5), .ref (q 7), .ref (q 10), .int (iI (x 11 0)), .int (iI (x 12 0)), .int (iI (x 13 0)), .int (iI (x 14 0)), .int (iI (x 15 0)), .int (iI (x 16 0)), .int (iI (x 17 0))])), (q 3, .inr (1, [.int (iI (20)), .int (iI (80)), .ref (q 4), .int (iI (x 18 0))])), (q 4, .inl (T 0, 1680, .inl (fun jj : Nat => (iF (x 2)) (jj : Int)))), (q 7, .inr (1, [.int (iI (20)), .int (iI (80)), .ref (q 8), .int (iI (x 20 0))])), (q 8, .inl (T 0, 1680, .inl (fun jj : Nat => (iF (x 4)) (jj : Int)))), (q 10, .inr (0, [.ref (q 1), .ref (q 11)])), (q 11, .inl (T 0, n, .inl (fun jj : Nat => (iF d) (jj : Int))))]) rfl (by decide) (by decide) (fun _ => rfl) (by decide) (fun u_ H locs hq15 hP hD hS => ?_)
    refine lv_aload_n hx hb d_PR_fillRow_18 rfl (lv_at hl 0 rfl) ?_
    refine lv_iload_n hx hb d_PR_fillRow_19 rfl (lv_at hl 2 rfl) ?_
    refine lv_iload_n hx hb d_PR_fillRow_20 rfl (lv_at hl 3 rfl) ?_
    refine cx_iadd hx hb d_PR_fillRow_21 ?_
    refine lv_iload hx hb d_PR_fillRow_22 (lv_at hl 4 rfl) ?_
    refine cx_cV (ws2 := fun _ => prW T q n d ((gof g (up (up (up x 3 (spa (x 3) (x 19 0 * 132) 132 (fun k => (x 0) (201 + k)))) 19 (cst (x 19 0 + 1))) 13 (cst (201 + 132)))) 0) ((gof g (up (up (up x 3 (spa (x 3) (x 19 0 * 132) 132 (fun k => (x 0) (201 + k)))) 19 (cst (x 19 0 + 1))) 13 (cst (201 + 132)))) 1) ((gof g (up (up (up x 3 (spa (x 3) (x 19 0 * 132) 132 (fun k => (x 0) (201 + k)))) 19 (cst (x 19 0 + 1))) 13 (cst (201 + 132)))) 2) ((gof g (up (up (up x 3 (spa (x 3) (x 19 0 * 132) 132 (fun k => (x 0) (201 + k)))) 19 (cst (x 19 0 + 1))) 13 (cst (201 + 132)))) 3) ((gof g (up (up (up x 3 (spa (x 3) (x 19 0 * 132) 132 (fun k => (x 0) (201 + k)))) 19 (cst (x 19 0 + 1))) 13 (cst (201 + 132)))) 4) ((gof g (up (up (up x 3 (spa (x 3) (x 19 0 * 132) 132 (fun k => (x 0) (201 + k)))) 19 (cst (x 19 0 + 1))) 13 (cst (201 + 132)))) 11 0) ((gof g (up (up (up x 3 (spa (x 3) (x 19 0 * 132) 132 (fun k => (x 0) (201 + k)))) 19 (cst (x 19 0 + 1))) 13 (cst (201 + 132)))) 12 0) ((gof g (up (up (up x 3 (spa (x 3) (x 19 0 * 132) 132 (fun k => (x 0) (201 + k)))) 19 (cst (x 19 0 + 1))) 13 (cst (201 + 132)))) 13 0) ((gof g (up (up (up x 3 (spa (x 3) (x 19 0 * 132) 132 (fun k => (x 0) (201 + k)))) 19 (cst (x 19 0 + 1))) 13 (cst (201 + 132)))) 14 0) ((gof g (up (up (up x 3 (spa (x 3) (x 19 0 * 132) 132 (fun k => (x 0) (201 + k)))) 19 (cst (x 19 0 + 1))) 13 (cst (201 + 132)))) 15 0) ((gof g (up (up (up x 3 (spa (x 3) (x 19 0 * 132) 132 (fun k => (x 0) (201 + k)))) 19 (cst (x 19 0 + 1))) 13 (cst (201 + 132)))) 16 0) ((gof g (up (up (up x 3 (spa (x 3) (x 19 0 * 132) 132 (fun k => (x 0) (201 + k)))) 19 (cst (x 19 0 + 1))) 13 (cst (201 + 132)))) 17 0) ((gof g (up (up (up x 3 (spa (x 3) (x 19 0 * 132) 132 (fun k => (x 0) (201 + k)))) 19 (cst (x 19 0 + 1))) 13 (cst (201 + 132)))) 18 0) ((gof g (up (up (up x 3 (spa (x 3) (x 19 0 * 132) 132 (fun k => (x 0) (201 + k)))) 19 (cst (x 19 0 + 1))) 13 (cst (201 + 132)))) 19 0) ((gof g (up (up (up x 3 (spa (x 3) (x 19 0 * 132) 132 (fun k => (x 0) (201 + k)))) 19 (cst (x 19 0 + 1))) 13 (cst (201 + 132)))) 20 0)) (cx_rV (q0 := 0) (ci := 2) (rest := []) (As := [.int (iI (201 + 132)), .int (iI (g))]) hx hb hml hown hT hK hN hP hD hl.1 tw_520 k_PR_endTransfer (c_PR_endTransfer l D T H.size q n hn d (up (up x 3 (spa (x 3) (x 19 0 * 132) 132 (fun k => (x 0) (201 + k)))) 19 (cst (x 19 0 + 1))) (show okX (up (up x 3 (spa (x 3) (x 19 0 * 132) 132 (fun k => (x 0) (201 + k)))) 19 (cst (x 19 0 + 1))) from ⟨hX.1, (show okR (x 11 0) (x 12 0) (x 13 0) (x 14 0) (x 15 0) (x 16 0) (x 17 0) (x 18 0) (x 19 0 + 1) (x 20 0) by have h8 := hX.2.1; unfold okR at h8 ⊢; omega), hX.2.2⟩) (201 + 132) (by omega) g (by omega)) ⟨by decide, by decide⟩ ⟨rfl, rfl⟩ [0, 1, 2, 3, 4, 5, 6, 7, 8, 9, 10] (by decide) rfl rfl rfl rfl rfl (Nat.le_of_ble_eq_true rfl) ⟨Nat.zero_le _, Nat.zero_le _⟩ d_PR_fillRow_24) hP hD hS hA [0, 1, 2, 3, 4, 5, 6, 7, 8, 9, 10] [] [0, 1, 2, 3, 4, 5, 6, 7, 8, 9, 10] rfl (wr := []) rfl (by decide) (by decide) (fun _ => rfl) (by decide) (fun u_ H locs hq24 hP hD hS => ?_)
    refine cx_iconst hx hb d_PR_fillRow_27 ?_
    exact hret ((gof g (up (up (up x 3 (spa (x 3) (x 19 0 * 132) 132 (fun k => (x 0) (201 + k)))) 19 (cst (x 19 0 + 1))) 13 (cst (201 + 132))))) (pst_of (by unfold filS; rw [if_neg (by omega)]) (gof_ok g (up13_ok (show okX (up (up x 3 (spa (x 3) (x 19 0 * 132) 132 (fun k => (x 0) (201 + k)))) 19 (cst (x 19 0 + 1))) from ⟨hX.1, (show okR (x 11 0) (x 12 0) (x 13 0) (x 14 0) (x 15 0) (x 16 0) (x 17 0) (x 18 0) (x 19 0 + 1) (x 20 0) by have h8 := hX.2.1; unfold okR at h8 ⊢; omega), hX.2.2⟩) (show -1 ≤ (201 + 132) ∧ (201 + 132) ≤ 16000 by omega)))) hP hD hS d_PR_fillRow_28

set_option maxHeartbeats 4000000 in
set_option maxRecDepth 100000 in
theorem c_PR_fillRowP (l : Launch) (D : va_G) (T : Nat → ClassId) (sz : Nat) (q : Nat → Nat) (n : Nat) (hn : 400 ≤ n ∧ n ≤ 2000) (d : Int → Int) (x : SX) (hX : okX x) (g : Int) (hg : g = 0 ∨ g = 1) : MI l y_PR_fillRow (wY y_PR_fillRow b_PR_fillRow 5 (some .int)) (rmK 2) D vwCl (tyL T) nwL sz [.ref (q 9), .ref (q 7), .int (iI (101)), .int (iI (80)), .int (iI (g))] (prW T q n d (x 0) (x 1) (x 2) (x 3) (x 4) (x 11 0) (x 12 0) (x 13 0) (x 14 0) (x 15 0) (x 16 0) (x 17 0) (x 18 0) (x 19 0) (x 20 0)) (fun r u => pst (filS 4 20 20 101 80 g x) r u) (fun u => prX T q n d u) := by
  refine cx_inI (by decide) rfl (Nat.le_of_ble_eq_true rfl) ?_
  intro p e s m below meth cd ls A Q hx hb hml hT hown hret hP hK hD hN hS hA hl
  have hown : s.vm.findClass R_PR = some m.cls := hown
  have hl : lv_has ls 5 [(0, .ref (q 9)), (1, .ref (q 7)), (2, .int (iI (101))), (3, .int (iI (80))), (4, .int (iI (g)))] := hl
  have hC := hX.1
  have hR0 := hX.2.1
  have hF := hX.2.2
  unfold okR at hR0
  refine lv_aload_n hx hb d_PR_fillRow_0 rfl (lv_at hl 1 rfl) ?_
  refine cx_cI (ws2 := fun _ => prW T q n d (x 0) (x 1) (x 2) (x 3) (x 4) (x 11 0) (x 12 0) (x 13 0) (x 14 0) (x 15 0) (x 16 0) (x 17 0) (x 18 0) (x 19 0) (x 20 0)) (cx_rV (q0 := 5) (ci := 1) (rest := []) (As := []) hx hb hml hown hT hK hN hP hD hl.1 tw_528 k_PI_isFull (c_PI_isFull l D T s.heap.size (q 7) (q 8) 20 80 1680 (x 4) (x 20 0) (by omega) ) ⟨by decide, by decide⟩ ⟨rfl, rfl⟩ [5, 6] (by decide) rfl rfl rfl rfl rfl (Nat.le_of_ble_eq_true rfl) ⟨Nat.zero_le _, Nat.zero_le _⟩ d_PR_fillRow_1) hP hD hS hA [5, 6] [0, 1, 2, 3, 4, 7, 8, 9, 10] [0, 1, 2, 3, 4, 9, 10, 5, 6, 7, 8] rfl (wr := [(q 9, .inr (2, [.ref (q 1), .ref (q 3), .ref (q 5), .ref (q 7), .ref (q 10), .int (iI (x 11 0)), .int (iI (x 12 0)), .int (iI (x 13 0)), .int (iI (x 14 0)), .int (iI (x 15 0)), .int (iI (x 16 0)), .int (iI (x 17 0))])), (q 3, .inr (1, [.int (iI (20)), .int (iI (80)), .ref (q 4), .int (iI (x 18 0))])), (q 4, .inl (T 0, 1680, .inl (fun jj : Nat => (iF (x 2)) (jj : Int)))), (q 5, .inr (1, [.int (iI (40)), .int (iI (132)), .ref (q 6), .int (iI (x 19 0))])), (q 6, .inl (T 0, 5412, .inl (fun jj : Nat => (iF (x 3)) (jj : Int)))), (q 10, .inr (0, [.ref (q 1), .ref (q 11)])), (q 11, .inl (T 0, n, .inl (fun jj : Nat => (iF d) (jj : Int)))), (q 1, .inr (3, [.ref (q 2)])), (q 2, .inl (T 0, n, .inl (fun jj : Nat => (ceF (x 0) (x 1)) (jj : Int))))]) rfl (by decide) (by decide) (fun _ => rfl) (by decide) (fun r u_ H locs hq1 hP hD hS => ?_)
  rcases hq1 with ⟨rfl, h1⟩ | ⟨rfl, h1⟩
  · refine cx_if_eq (tgt := 9) hx hb d_PR_fillRow_4 rfl (by omega) (fun h0 => absurd h0 (by decide)) (fun _ => ?_)
    refine cx_iconst hx hb d_PR_fillRow_7 ?_
    exact hret x (pst_of (by unfold filS; rw [if_pos (by omega)]) hX) hP hD hS d_PR_fillRow_8
  · refine cx_if_eq (tgt := 9) hx hb d_PR_fillRow_4 rfl (by omega) (fun _ => ?_) (fun h0 => absurd h0 (by decide))
    refine lv_aload_n hx hb d_PR_fillRow_9 rfl (lv_at hl 1 rfl) ?_
    refine lv_aload_n hx hb d_PR_fillRow_10 rfl (lv_at hl 0 rfl) ?_
    refine va_get (D := D) (ci := 2) (v := .ref (q 1)) (C := R_PR) (T := T_PR) (N := 12) hx hb hT lays_PR hown hK hP 0 rfl rfl 0 (by decide) (hT _ tw_78) (fun _ h9 => h9) rfl d_PR_fillRow_11 ?_
    refine lv_iload_n hx hb d_PR_fillRow_14 rfl (lv_at hl 2 rfl) ?_
    refine cx_cV (ws2 := fun _ => prW T q n d (x 0) (x 1) (x 2) (x 3) (spa (x 4) (x 20 0 * 80) 80 (fun k => (x 0) (101 + k))) (x 11 0) (x 12 0) (x 13 0) (x 14 0) (x 15 0) (x 16 0) (x 17 0) (x 18 0) (x 19 0) (x 20 0 + 1)) (cx_rV (q0 := 5) (ci := 1) (rest := []) (As := [.ref (q 1), .int (iI (101))]) hx hb hml hown hT hK hN hP hD hl.1 tw_529 k_PI_copy (c_PI_copy l D T H.size (q 7) (q 8) 20 80 1680 (x 4) (x 20 0) (by omega) q n (x 0) (x 1) hn hC 101 (by omega) (by omega) (by omega)) ⟨by decide, by decide⟩ ⟨rfl, rfl⟩ [5, 6, 9, 10] (by decide) rfl rfl rfl rfl rfl (Nat.le_of_ble_eq_true rfl) ⟨Nat.zero_le _, Nat.zero_le _⟩ d_PR_fillRow_15) hP hD hS hA [5, 6, 9, 10] [0, 1, 2, 3, 4, 7, 8] [0, 1, 2, 3, 4, 7, 8, 5, 6, 9, 10] rfl (wr := [(q 9, .inr (2, [.ref (q 1), .ref (q 3), .ref (q 5), .ref (q 7), .ref (q 10), .int (iI (x 11 0)), .int (iI (x 12 0)), .int (iI (x 13 0)), .int (iI (x 14 0)), .int (iI (x 15 0)), .int (iI (x 16 0)), .int (iI (x 17 0))])), (q 3, .inr (1, [.int (iI (20)), .int (iI (80)), .ref (q 4), .int (iI (x 18 0))])), (q 4, .inl (T 0, 1680, .inl (fun jj : Nat => (iF (x 2)) (jj : Int)))), (q 5, .inr (1, [.int (iI (40)), .int (iI (132)), .ref (q 6), .int (iI (x 19 0))])), (q 6, .inl (T 0, 5412, .inl (fun jj : Nat => (iF (x 3)) (jj : Int)))), (q 10, .inr (0, [.ref (q 1), .ref (q 11)])), (q 11, .inl (T 0, n, .inl (fun jj : Nat => (iF d) (jj : Int))))]) rfl (by decide) (by decide) (fun _ => rfl) (by decide) (fun u_ H locs hq15 hP hD hS => ?_)
    refine lv_aload_n hx hb d_PR_fillRow_18 rfl (lv_at hl 0 rfl) ?_
    refine lv_iload_n hx hb d_PR_fillRow_19 rfl (lv_at hl 2 rfl) ?_
    refine lv_iload_n hx hb d_PR_fillRow_20 rfl (lv_at hl 3 rfl) ?_
    refine cx_iadd hx hb d_PR_fillRow_21 ?_
    refine lv_iload hx hb d_PR_fillRow_22 (lv_at hl 4 rfl) ?_
    refine cx_cV (ws2 := fun _ => prW T q n d ((gof g (up (up (up x 4 (spa (x 4) (x 20 0 * 80) 80 (fun k => (x 0) (101 + k)))) 20 (cst (x 20 0 + 1))) 13 (cst (101 + 80)))) 0) ((gof g (up (up (up x 4 (spa (x 4) (x 20 0 * 80) 80 (fun k => (x 0) (101 + k)))) 20 (cst (x 20 0 + 1))) 13 (cst (101 + 80)))) 1) ((gof g (up (up (up x 4 (spa (x 4) (x 20 0 * 80) 80 (fun k => (x 0) (101 + k)))) 20 (cst (x 20 0 + 1))) 13 (cst (101 + 80)))) 2) ((gof g (up (up (up x 4 (spa (x 4) (x 20 0 * 80) 80 (fun k => (x 0) (101 + k)))) 20 (cst (x 20 0 + 1))) 13 (cst (101 + 80)))) 3) ((gof g (up (up (up x 4 (spa (x 4) (x 20 0 * 80) 80 (fun k => (x 0) (101 + k)))) 20 (cst (x 20 0 + 1))) 13 (cst (101 + 80)))) 4) ((gof g (up (up (up x 4 (spa (x 4) (x 20 0 * 80) 80 (fun k => (x 0) (101 + k)))) 20 (cst (x 20 0 + 1))) 13 (cst (101 + 80)))) 11 0) ((gof g (up (up (up x 4 (spa (x 4) (x 20 0 * 80) 80 (fun k => (x 0) (101 + k)))) 20 (cst (x 20 0 + 1))) 13 (cst (101 + 80)))) 12 0) ((gof g (up (up (up x 4 (spa (x 4) (x 20 0 * 80) 80 (fun k => (x 0) (101 + k)))) 20 (cst (x 20 0 + 1))) 13 (cst (101 + 80)))) 13 0) ((gof g (up (up (up x 4 (spa (x 4) (x 20 0 * 80) 80 (fun k => (x 0) (101 + k)))) 20 (cst (x 20 0 + 1))) 13 (cst (101 + 80)))) 14 0) ((gof g (up (up (up x 4 (spa (x 4) (x 20 0 * 80) 80 (fun k => (x 0) (101 + k)))) 20 (cst (x 20 0 + 1))) 13 (cst (101 + 80)))) 15 0) ((gof g (up (up (up x 4 (spa (x 4) (x 20 0 * 80) 80 (fun k => (x 0) (101 + k)))) 20 (cst (x 20 0 + 1))) 13 (cst (101 + 80)))) 16 0) ((gof g (up (up (up x 4 (spa (x 4) (x 20 0 * 80) 80 (fun k => (x 0) (101 + k)))) 20 (cst (x 20 0 + 1))) 13 (cst (101 + 80)))) 17 0) ((gof g (up (up (up x 4 (spa (x 4) (x 20 0 * 80) 80 (fun k => (x 0) (101 + k)))) 20 (cst (x 20 0 + 1))) 13 (cst (101 + 80)))) 18 0) ((gof g (up (up (up x 4 (spa (x 4) (x 20 0 * 80) 80 (fun k => (x 0) (101 + k)))) 20 (cst (x 20 0 + 1))) 13 (cst (101 + 80)))) 19 0) ((gof g (up (up (up x 4 (spa (x 4) (x 20 0 * 80) 80 (fun k => (x 0) (101 + k)))) 20 (cst (x 20 0 + 1))) 13 (cst (101 + 80)))) 20 0)) (cx_rV (q0 := 0) (ci := 2) (rest := []) (As := [.int (iI (101 + 80)), .int (iI (g))]) hx hb hml hown hT hK hN hP hD hl.1 tw_520 k_PR_endTransfer (c_PR_endTransfer l D T H.size q n hn d (up (up x 4 (spa (x 4) (x 20 0 * 80) 80 (fun k => (x 0) (101 + k)))) 20 (cst (x 20 0 + 1))) (show okX (up (up x 4 (spa (x 4) (x 20 0 * 80) 80 (fun k => (x 0) (101 + k)))) 20 (cst (x 20 0 + 1))) from ⟨hX.1, (show okR (x 11 0) (x 12 0) (x 13 0) (x 14 0) (x 15 0) (x 16 0) (x 17 0) (x 18 0) (x 19 0) (x 20 0 + 1) by have h8 := hX.2.1; unfold okR at h8 ⊢; omega), hX.2.2⟩) (101 + 80) (by omega) g (by omega)) ⟨by decide, by decide⟩ ⟨rfl, rfl⟩ [0, 1, 2, 3, 4, 5, 6, 7, 8, 9, 10] (by decide) rfl rfl rfl rfl rfl (Nat.le_of_ble_eq_true rfl) ⟨Nat.zero_le _, Nat.zero_le _⟩ d_PR_fillRow_24) hP hD hS hA [0, 1, 2, 3, 4, 5, 6, 7, 8, 9, 10] [] [0, 1, 2, 3, 4, 5, 6, 7, 8, 9, 10] rfl (wr := []) rfl (by decide) (by decide) (fun _ => rfl) (by decide) (fun u_ H locs hq24 hP hD hS => ?_)
    refine cx_iconst hx hb d_PR_fillRow_27 ?_
    exact hret ((gof g (up (up (up x 4 (spa (x 4) (x 20 0 * 80) 80 (fun k => (x 0) (101 + k)))) 20 (cst (x 20 0 + 1))) 13 (cst (101 + 80))))) (pst_of (by unfold filS; rw [if_neg (by omega)]) (gof_ok g (up13_ok (show okX (up (up x 4 (spa (x 4) (x 20 0 * 80) 80 (fun k => (x 0) (101 + k)))) 20 (cst (x 20 0 + 1))) from ⟨hX.1, (show okR (x 11 0) (x 12 0) (x 13 0) (x 14 0) (x 15 0) (x 16 0) (x 17 0) (x 18 0) (x 19 0) (x 20 0 + 1) by have h8 := hX.2.1; unfold okR at h8 ⊢; omega), hX.2.2⟩) (show -1 ≤ (101 + 80) ∧ (101 + 80) ≤ 16000 by omega)))) hP hD hS d_PR_fillRow_28

set_option maxHeartbeats 4000000 in
set_option maxRecDepth 100000 in
theorem c_JM_floorMod (l : Launch) (D : va_G) (T : Nat → ClassId) (sz : Nat) (y : Int) (hy : -1 ≤ y ∧ y ≤ 16000) : MI l y_JM_floorMod (wY y_JM_floorMod b_JM_floorMod 3 (some .int)) (rmK 0) D vwCl (tyL T) nwL sz [.int (iI (y)), .int (iI (16000))] (([] : va_W)) (fun r (_ : Unit) => r = iI (y % 16000)) (fun _ => ([] : va_W)) := by
  refine cx_inIF (by decide +kernel) rfl (Nat.le_of_ble_eq_true rfl) ?_
  intro p e s m below meth cd ls A Q hx hb hml hT hown hret hP hK hD hN hS hA hl
  have hown : s.vm.findClass R_JM = some m.cls := hown
  have hl : lv_has ls 3 [(0, .int (iI (y))), (1, .int (iI (16000)))] := hl
  by_cases h0 : 0 ≤ y
  · refine lv_iload_n hx hb d_JM_floorMod_0 rfl (lv_at hl 0 rfl) ?_
    refine lv_iload_n hx hb d_JM_floorMod_1 rfl (lv_at hl 1 rfl) ?_
    refine cx_irem hx hb d_JM_floorMod_2 (by omega) (by omega) ?_
    refine lv_istore_n (lv' := [(2, .int (iI (y % 16000))), (0, .int (iI (y))), (1, .int (iI (16000)))]) hx hb d_JM_floorMod_3 rfl hl (by decide) rfl (fun ls hl => ?_)
    refine lv_iload_n hx hb d_JM_floorMod_4 rfl (lv_at hl 1 rfl) ?_
    refine lv_iload_n hx hb d_JM_floorMod_5 rfl (lv_at hl 2 rfl) ?_
    refine lv_ixor hx hb d_JM_floorMod_6 ?_
    refine cx_eq (xor_nn (by omega)) ?_
    have hxo := xo_in (y := y) (by omega)
    refine cx_if_ge (tgt := 18) hx hb d_JM_floorMod_7 rfl (by omega) (fun h7 => ?_) (fun h7 => absurd h7 (by omega))
    refine lv_iload_n hx hb d_JM_floorMod_18 rfl (lv_at hl 0 rfl) ?_
    exact hret () rfl hP hD hS d_JM_floorMod_19
  · obtain rfl : y = -1 := by omega
    have hl : lv_has ls 3 [(0, .int (iI (-1))), (1, .int (iI (16000)))] := hl
    refine lv_iload_n hx hb d_JM_floorMod_0 rfl (lv_at hl 0 rfl) ?_
    refine lv_iload_n hx hb d_JM_floorMod_1 rfl (lv_at hl 1 rfl) ?_
    refine lv_irem hx hb d_JM_floorMod_2 (by decide) ?_
    refine cx_eq (show iI (-1) - iI (-1) / iI 16000 * iI 16000 = iI (-1) by decide +kernel) ?_
    refine lv_istore_n (lv' := [(2, .int (iI (-1))), (0, .int (iI (-1))), (1, .int (iI (16000)))]) hx hb d_JM_floorMod_3 rfl hl (by decide) rfl (fun ls hl => ?_)
    refine lv_iload_n hx hb d_JM_floorMod_4 rfl (lv_at hl 1 rfl) ?_
    refine lv_iload_n hx hb d_JM_floorMod_5 rfl (lv_at hl 2 rfl) ?_
    refine lv_ixor hx hb d_JM_floorMod_6 ?_
    refine cx_eq (show iI (-1) ^^^ iI 16000 = iI (-16001) by decide +kernel) ?_
    refine cx_if_ge (tgt := 18) hx hb d_JM_floorMod_7 rfl (by omega) (fun h0 => absurd h0 (by decide)) (fun _ => ?_)
    refine lv_iload_n hx hb d_JM_floorMod_10 rfl (lv_at hl 0 rfl) ?_
    refine cx_if_eq (tgt := 18) hx hb d_JM_floorMod_11 rfl (by omega) (fun h0 => absurd h0 (by decide)) (fun _ => ?_)
    refine lv_iload_n hx hb d_JM_floorMod_14 rfl (lv_at hl 0 rfl) ?_
    refine lv_iload_n hx hb d_JM_floorMod_15 rfl (lv_at hl 2 rfl) ?_
    refine cx_iadd hx hb d_JM_floorMod_16 ?_
    exact hret () (by decide +kernel) hP hD hS d_JM_floorMod_17

set_option maxHeartbeats 4000000 in
set_option maxRecDepth 100000 in
theorem c_PR_storeAddress (l : Launch) (D : va_G) (T : Nat → ClassId) (sz : Nat) (q : Nat → Nat) (n : Nat) (hn : 400 ≤ n ∧ n ≤ 2000) (d : Int → Int) (x : SX) (hX : okX x) (y : Int) (hy : -1 ≤ y ∧ y ≤ 16000) : MI l y_PR_storeAddress (wY y_PR_storeAddress b_PR_storeAddress 2 (some .int)) (rmK 2) D vwCl (tyL T) nwL sz [.ref (q 9), .int (iI (y))] (prW T q n d (x 0) (x 1) (x 2) (x 3) (x 4) (x 11 0) (x 12 0) (x 13 0) (x 14 0) (x 15 0) (x 16 0) (x 17 0) (x 18 0) (x 19 0) (x 20 0)) (fun r u => pst (staS n y x) r u) (fun u => prX T q n d u) := by
  refine cx_inI (by decide) rfl (Nat.le_of_ble_eq_true rfl) ?_
  intro p e s m below meth cd ls A Q hx hb hml hT hown hret hP hK hD hN hS hA hl
  have hown : s.vm.findClass R_PR = some m.cls := hown
  have hl : lv_has ls 2 [(0, .ref (q 9)), (1, .int (iI (y)))] := hl
  have hC := hX.1
  have hR0 := hX.2.1
  have hF := hX.2.2
  unfold okR at hR0
  refine lv_aload_n hx hb d_PR_storeAddress_0 rfl (lv_at hl 0 rfl) ?_
  refine va_get (D := D) (ci := 2) (v := .ref (q 1)) (C := R_PR) (T := T_PR) (N := 12) hx hb hT lays_PR hown hK hP 0 rfl rfl 0 (by decide) (hT _ tw_78) (fun _ h9 => h9) rfl d_PR_storeAddress_1 ?_
  refine lv_aload_n hx hb d_PR_storeAddress_4 rfl (lv_at hl 0 rfl) ?_
  refine va_get (D := D) (ci := 2) (v := .int (iI (x 12 0))) (C := R_PR) (T := T_PR) (N := 12) hx hb hT lays_PR hown hK hP 0 rfl rfl 6 (by decide) (hT _ tw_85) (fun _ h9 => h9) rfl d_PR_storeAddress_5 ?_
  refine cx_iconst hx hb d_PR_storeAddress_8 ?_
  refine cx_cI (ws2 := fun _ => prW T q n d (x 0) (x 1) (x 2) (x 3) (x 4) (x 11 0) (x 12 0) (x 13 0) (x 14 0) (x 15 0) (x 16 0) (x 17 0) (x 18 0) (x 19 0) (x 20 0)) (cx_rV (q0 := 9) (ci := 3) (rest := []) (As := [.int (iI (x 12 0)), .int (iI (3))]) hx hb hml hown hT hK hN hP hD hl.1 tw_432 k_ST_hasSpan (c_ST_hasSpan l D T s.heap.size q n (x 0) (x 1) hn (x 12 0) 3 (by omega) (by omega)) ⟨by decide, by decide⟩ ⟨rfl, rfl⟩ [9, 10] (by decide) rfl rfl rfl rfl rfl (Nat.le_of_ble_eq_true rfl) ⟨Nat.zero_le _, Nat.zero_le _⟩ d_PR_storeAddress_9) hP hD hS hA [9, 10] [0, 1, 2, 3, 4, 5, 6, 7, 8] [0, 1, 2, 3, 4, 5, 6, 7, 8, 9, 10] rfl (wr := [(q 9, .inr (2, [.ref (q 1), .ref (q 3), .ref (q 5), .ref (q 7), .ref (q 10), .int (iI (x 11 0)), .int (iI (x 12 0)), .int (iI (x 13 0)), .int (iI (x 14 0)), .int (iI (x 15 0)), .int (iI (x 16 0)), .int (iI (x 17 0))])), (q 3, .inr (1, [.int (iI (20)), .int (iI (80)), .ref (q 4), .int (iI (x 18 0))])), (q 4, .inl (T 0, 1680, .inl (fun jj : Nat => (iF (x 2)) (jj : Int)))), (q 5, .inr (1, [.int (iI (40)), .int (iI (132)), .ref (q 6), .int (iI (x 19 0))])), (q 6, .inl (T 0, 5412, .inl (fun jj : Nat => (iF (x 3)) (jj : Int)))), (q 7, .inr (1, [.int (iI (20)), .int (iI (80)), .ref (q 8), .int (iI (x 20 0))])), (q 8, .inl (T 0, 1680, .inl (fun jj : Nat => (iF (x 4)) (jj : Int)))), (q 10, .inr (0, [.ref (q 1), .ref (q 11)])), (q 11, .inl (T 0, n, .inl (fun jj : Nat => (iF d) (jj : Int))))]) rfl (by decide) (by decide) (fun _ => rfl) (by decide) (fun r u_ H locs hq9 hP hD hS => ?_)
  rcases hq9 with ⟨rfl, h9⟩ | ⟨rfl, h9⟩
  · refine cx_if_ne (tgt := 17) hx hb d_PR_storeAddress_12 rfl (by omega) (fun _ => ?_) (fun h0 => absurd h0 (by decide))
    refine lv_aload_n hx hb d_PR_storeAddress_17 rfl (lv_at hl 0 rfl) ?_
    refine va_get (D := D) (ci := 2) (v := .ref (q 1)) (C := R_PR) (T := T_PR) (N := 12) hx hb hT lays_PR hown hK hP 0 rfl rfl 0 (by decide) (hT _ tw_78) (fun _ h9 => h9) rfl d_PR_storeAddress_18 ?_
    refine lv_aload_n hx hb d_PR_storeAddress_21 rfl (lv_at hl 0 rfl) ?_
    refine va_get (D := D) (ci := 2) (v := .int (iI (x 12 0))) (C := R_PR) (T := T_PR) (N := 12) hx hb hT lays_PR hown hK hP 0 rfl rfl 6 (by decide) (hT _ tw_85) (fun _ h9 => h9) rfl d_PR_storeAddress_22 ?_
    refine lv_iload_n hx hb d_PR_storeAddress_25 rfl (lv_at hl 1 rfl) ?_
    refine cx_sipush hx hb d_PR_storeAddress_26 rfl ?_
    refine cx_cI (ws2 := fun _ => prW T q n d (x 0) (x 1) (x 2) (x 3) (x 4) (x 11 0) (x 12 0) (x 13 0) (x 14 0) (x 15 0) (x 16 0) (x 17 0) (x 18 0) (x 19 0) (x 20 0)) (cx_rS (rest := [.int (iI (x 12 0)), .ref (q 1)]) (As := [.int (iI (y)), .int (iI (16000))]) hx hb hml hown hT hK hN hP hD hl.1 tw_540 k_JM_floorMod (c_JM_floorMod l D T H.size y (by omega)) ⟨by decide, by decide⟩ ⟨rfl, rfl⟩ [] (by decide) rfl rfl rfl (Nat.le_of_ble_eq_true rfl) ⟨Nat.zero_le _, Nat.zero_le _⟩ d_PR_storeAddress_29) hP hD hS hA [] [0, 1, 2, 3, 4, 5, 6, 7, 8, 9, 10] [0, 1, 2, 3, 4, 5, 6, 7, 8, 9, 10] rfl (wr := [(q 9, .inr (2, [.ref (q 1), .ref (q 3), .ref (q 5), .ref (q 7), .ref (q 10), .int (iI (x 11 0)), .int (iI (x 12 0)), .int (iI (x 13 0)), .int (iI (x 14 0)), .int (iI (x 15 0)), .int (iI (x 16 0)), .int (iI (x 17 0))])), (q 3, .inr (1, [.int (iI (20)), .int (iI (80)), .ref (q 4), .int (iI (x 18 0))])), (q 4, .inl (T 0, 1680, .inl (fun jj : Nat => (iF (x 2)) (jj : Int)))), (q 5, .inr (1, [.int (iI (40)), .int (iI (132)), .ref (q 6), .int (iI (x 19 0))])), (q 6, .inl (T 0, 5412, .inl (fun jj : Nat => (iF (x 3)) (jj : Int)))), (q 7, .inr (1, [.int (iI (20)), .int (iI (80)), .ref (q 8), .int (iI (x 20 0))])), (q 8, .inl (T 0, 1680, .inl (fun jj : Nat => (iF (x 4)) (jj : Int)))), (q 10, .inr (0, [.ref (q 1), .ref (q 11)])), (q 11, .inl (T 0, n, .inl (fun jj : Nat => (iF d) (jj : Int)))), (q 1, .inr (3, [.ref (q 2)])), (q 2, .inl (T 0, n, .inl (fun jj : Nat => (ceF (x 0) (x 1)) (jj : Int))))]) rfl (by decide) (by decide) (fun _ => rfl) (by decide) (fun r u_ H locs hq29 hP hD hS => ?_)
    subst hq29
    refine cx_cV (ws2 := fun _ => prW T q n d (wad (x 0) (x 12 0) (y % 16000)) (x 1) (x 2) (x 3) (x 4) (x 11 0) (x 12 0) (x 13 0) (x 14 0) (x 15 0) (x 16 0) (x 17 0) (x 18 0) (x 19 0) (x 20 0)) (cx_rV (q0 := 9) (ci := 3) (rest := []) (As := [.int (iI (x 12 0)), .int (iI (y % 16000))]) hx hb hml hown hT hK hN hP hD hl.1 tw_543 k_ST_writeAddress (c_ST_writeAddress l D T H.size q n (x 0) (x 1) hn hC (x 12 0) (by omega) (y % 16000) (by omega)) ⟨by decide, by decide⟩ ⟨rfl, rfl⟩ [9, 10] (by decide) rfl rfl rfl rfl rfl (Nat.le_of_ble_eq_true rfl) ⟨Nat.zero_le _, Nat.zero_le _⟩ d_PR_storeAddress_32) hP hD hS hA [9, 10] [0, 1, 2, 3, 4, 5, 6, 7, 8] [0, 1, 2, 3, 4, 5, 6, 7, 8, 9, 10] rfl (wr := [(q 9, .inr (2, [.ref (q 1), .ref (q 3), .ref (q 5), .ref (q 7), .ref (q 10), .int (iI (x 11 0)), .int (iI (x 12 0)), .int (iI (x 13 0)), .int (iI (x 14 0)), .int (iI (x 15 0)), .int (iI (x 16 0)), .int (iI (x 17 0))])), (q 3, .inr (1, [.int (iI (20)), .int (iI (80)), .ref (q 4), .int (iI (x 18 0))])), (q 4, .inl (T 0, 1680, .inl (fun jj : Nat => (iF (x 2)) (jj : Int)))), (q 5, .inr (1, [.int (iI (40)), .int (iI (132)), .ref (q 6), .int (iI (x 19 0))])), (q 6, .inl (T 0, 5412, .inl (fun jj : Nat => (iF (x 3)) (jj : Int)))), (q 7, .inr (1, [.int (iI (20)), .int (iI (80)), .ref (q 8), .int (iI (x 20 0))])), (q 8, .inl (T 0, 1680, .inl (fun jj : Nat => (iF (x 4)) (jj : Int)))), (q 10, .inr (0, [.ref (q 1), .ref (q 11)])), (q 11, .inl (T 0, n, .inl (fun jj : Nat => (iF d) (jj : Int))))]) rfl (by decide) (by decide) (fun _ => rfl) (by decide) (fun u_ H locs hq32 hP hD hS => ?_)
    have hC : okC (wad (x 0) (x 12 0) (y % 16000)) (x 1) := okC_wad hC (by omega)
    refine lv_aload_n hx hb d_PR_storeAddress_35 rfl (lv_at hl 0 rfl) ?_
    refine lv_dup hx hb d_PR_storeAddress_36 rfl ?_
    refine va_get (D := D) (ci := 2) (v := .int (iI (x 12 0))) (C := R_PR) (T := T_PR) (N := 12) hx hb hT lays_PR hown hK hP 0 rfl rfl 6 (by decide) (hT _ tw_85) (fun _ h9 => h9) rfl d_PR_storeAddress_37 ?_
    refine cx_iconst hx hb d_PR_storeAddress_40 ?_
    refine cx_isub hx hb d_PR_storeAddress_41 ?_
    refine va_put (D := D) (ci := 2) (v := .int (iI ((x 12 0) - 3))) (ty := .int) (C := R_PR) (T := T_PR) (N := 12) hx hb hT lays_PR t_PR t_PR_ok n_PR hown hK hP hD hS 0 rfl rfl 6 (by decide) (hT _ tw_85) (fun _ h9 => h9) rfl (by decide +kernel) rfl rfl (Nat.le_of_ble_eq_true rfl) d_PR_storeAddress_42 (fun H locs hP hD hS => ?_)
    have hP : va_P D vwCl (prW T q n d (wad (x 0) (x 12 0) (y % 16000)) (x 1) (x 2) (x 3) (x 4) (x 11 0) ((x 12 0) - 3) (x 13 0) (x 14 0) (x 15 0) (x 16 0) (x 17 0) (x 18 0) (x 19 0) (x 20 0)) H := hP
    have hD : va_D A (prW T q n d (wad (x 0) (x 12 0) (y % 16000)) (x 1) (x 2) (x 3) (x 4) (x 11 0) ((x 12 0) - 3) (x 13 0) (x 14 0) (x 15 0) (x 16 0) (x 17 0) (x 18 0) (x 19 0) (x 20 0)) := hD
    refine cx_iconst hx hb d_PR_storeAddress_45 ?_
    exact hret (up (up x 0 (wad (x 0) (x 12 0) (y % 16000))) 12 (cst ((x 12 0) - 3))) (pst_of (by unfold staS; rw [if_pos (by omega)]) (show okX (up (up x 0 (wad (x 0) (x 12 0) (y % 16000))) 12 (cst ((x 12 0) - 3))) from ⟨hC, (show okR (x 11 0) ((x 12 0) - 3) (x 13 0) (x 14 0) (x 15 0) (x 16 0) (x 17 0) (x 18 0) (x 19 0) (x 20 0) by have h8 := hX.2.1; unfold okR at h8 ⊢; omega), hX.2.2⟩)) hP hD hS d_PR_storeAddress_46
  · refine cx_if_ne (tgt := 17) hx hb d_PR_storeAddress_12 rfl (by omega) (fun h0 => absurd h0 (by decide)) (fun _ => ?_)
    refine cx_iconst hx hb d_PR_storeAddress_15 ?_
    exact hret x (pst_of (by unfold staS; rw [if_neg (by omega)]) hX) hP hD hS d_PR_storeAddress_16

set_option maxHeartbeats 4000000 in
set_option maxRecDepth 100000 in
theorem c_PR_takeAddresses (l : Launch) (D : va_G) (T : Nat → ClassId) (sz : Nat) (q : Nat → Nat) (n : Nat) (hn : 400 ≤ n ∧ n ≤ 2000) (d : Int → Int) (x : SX) (hX : okX x) (o : Int) (ho : 0 ≤ o ∧ o < 64) (k : Int) (hk : 1 ≤ k ∧ k ≤ 8) (hI : 0 ≤ x 11 0 ∧ x 11 0 + k < n) : MV l y_PR_takeAddresses (wY y_PR_takeAddresses b_PR_takeAddresses 3 none) (rmK 2) D vwCl (tyL T) nwL sz [.ref (q 9), .int (iI (o)), .int (iI (k))] (prW T q n d (x 0) (x 1) (x 2) (x 3) (x 4) (x 11 0) (x 12 0) (x 13 0) (x 14 0) (x 15 0) (x 16 0) (x 17 0) (x 18 0) (x 19 0) (x 20 0)) (fun u => u = takS o k x ∧ okX u) (fun u => prX T q n d u) := by
  refine cx_inV (by decide) rfl (Nat.le_of_ble_eq_true rfl) ?_
  intro p e s m below meth cd ls A Q hx hb hml hT hown hret hP hK hD hN hS hA hl
  have hown : s.vm.findClass R_PR = some m.cls := hown
  have hl : lv_has ls 3 [(0, .ref (q 9)), (1, .int (iI (o))), (2, .int (iI (k)))] := hl
  have hC := hX.1
  have hR0 := hX.2.1
  have hF := hX.2.2
  unfold okR at hR0
  have ha1 := adr_in hC (x 11 0 + 1)
  have ha4 := adr_in hC (x 11 0 + 4)
  refine lv_iload_n hx hb d_PR_takeAddresses_0 rfl (lv_at hl 2 rfl) ?_
  refine cx_iconst hx hb d_PR_takeAddresses_1 ?_
  refine cx_icmp_lt (tgt := 22) hx hb d_PR_takeAddresses_2 rfl (by omega) (by omega) (fun h2 => ?_) (fun h2 => ?_)
  · refine lv_iload_n hx hb d_PR_takeAddresses_22 rfl (lv_at hl 2 rfl) ?_
    refine cx_bipush hx hb d_PR_takeAddresses_23 rfl ?_
    refine cx_icmp_lt (tgt := 48) hx hb d_PR_takeAddresses_25 rfl (by omega) (by omega) (fun h25 => ?_) (fun h25 => ?_)
    · refine lv_iload_n hx hb d_PR_takeAddresses_48 rfl (lv_at hl 2 rfl) ?_
      refine cx_iconst hx hb d_PR_takeAddresses_49 ?_
      refine cx_icmp_lt (tgt := 68) hx hb d_PR_takeAddresses_50 rfl (by omega) (by omega) (fun h50 => ?_) (fun h50 => ?_)
      · refine lv_aload_n hx hb d_PR_takeAddresses_68 rfl (lv_at hl 0 rfl) ?_
        refine lv_dup hx hb d_PR_takeAddresses_69 rfl ?_
        refine va_get (D := D) (ci := 2) (v := .int (iI (x 11 0))) (C := R_PR) (T := T_PR) (N := 12) hx hb hT lays_PR hown hK hP 0 rfl rfl 5 (by decide) (hT _ tw_83) (fun _ h9 => h9) rfl d_PR_takeAddresses_70 ?_
        refine lv_iload_n hx hb d_PR_takeAddresses_73 rfl (lv_at hl 2 rfl) ?_
        refine cx_iadd hx hb d_PR_takeAddresses_74 ?_
        refine va_put (D := D) (ci := 2) (v := .int (iI ((x 11 0) + k))) (ty := .int) (C := R_PR) (T := T_PR) (N := 12) hx hb hT lays_PR t_PR t_PR_ok n_PR hown hK hP hD hS 0 rfl rfl 5 (by decide) (hT _ tw_83) (fun _ h9 => h9) rfl (by decide +kernel) rfl rfl (Nat.le_of_ble_eq_true rfl) d_PR_takeAddresses_75 (fun H locs hP hD hS => ?_)
        have hP : va_P D vwCl (prW T q n d (x 0) (x 1) (x 2) (x 3) (x 4) ((x 11 0) + k) (x 12 0) (x 13 0) (x 14 0) (x 15 0) (x 16 0) (x 17 0) (x 18 0) (x 19 0) (x 20 0)) H := hP
        have hD : va_D A (prW T q n d (x 0) (x 1) (x 2) (x 3) (x 4) ((x 11 0) + k) (x 12 0) (x 13 0) (x 14 0) (x 15 0) (x 16 0) (x 17 0) (x 18 0) (x 19 0) (x 20 0)) := hD
        exact hret (up x 11 (cst ((x 11 0) + k))) (⟨by unfold takS takA takB; first | (exfalso; omega) | skip; repeat (first | rfl | (rw [if_pos (by omega)]) | (rw [if_neg (by omega)]) | (rw [if_neg (by unfold aln at *; omega)]) | (rw [if_pos (by unfold aln at *; omega)])), (show okX (up x 11 (cst ((x 11 0) + k))) from ⟨hX.1, (show okR ((x 11 0) + k) (x 12 0) (x 13 0) (x 14 0) (x 15 0) (x 16 0) (x 17 0) (x 18 0) (x 19 0) (x 20 0) by have h8 := hX.2.1; unfold okR at h8 ⊢; omega), hX.2.2⟩)⟩) hP hD hS d_PR_takeAddresses_78
      · refine lv_iload_n hx hb d_PR_takeAddresses_53 rfl (lv_at hl 1 rfl) ?_
        refine cx_cI (ws2 := fun _ => prW T q n d (x 0) (x 1) (x 2) (x 3) (x 4) (x 11 0) (x 12 0) (x 13 0) (x 14 0) (x 15 0) (x 16 0) (x 17 0) (x 18 0) (x 19 0) (x 20 0)) (cx_rS (rest := []) (As := [.int (iI (o))]) hx hb hml hown hT hK hN hP hD hl.1 tw_349 k_PR_keepsB (c_PR_keepsB l D T s.heap.size o (by omega)) ⟨by decide, by decide⟩ ⟨rfl, rfl⟩ [] (by decide) rfl rfl rfl (Nat.le_of_ble_eq_true rfl) ⟨Nat.zero_le _, Nat.zero_le _⟩ d_PR_takeAddresses_54) hP hD hS hA [] [0, 1, 2, 3, 4, 5, 6, 7, 8, 9, 10] [0, 1, 2, 3, 4, 5, 6, 7, 8, 9, 10] rfl (wr := [(q 9, .inr (2, [.ref (q 1), .ref (q 3), .ref (q 5), .ref (q 7), .ref (q 10), .int (iI (x 11 0)), .int (iI (x 12 0)), .int (iI (x 13 0)), .int (iI (x 14 0)), .int (iI (x 15 0)), .int (iI (x 16 0)), .int (iI (x 17 0))])), (q 3, .inr (1, [.int (iI (20)), .int (iI (80)), .ref (q 4), .int (iI (x 18 0))])), (q 4, .inl (T 0, 1680, .inl (fun jj : Nat => (iF (x 2)) (jj : Int)))), (q 5, .inr (1, [.int (iI (40)), .int (iI (132)), .ref (q 6), .int (iI (x 19 0))])), (q 6, .inl (T 0, 5412, .inl (fun jj : Nat => (iF (x 3)) (jj : Int)))), (q 7, .inr (1, [.int (iI (20)), .int (iI (80)), .ref (q 8), .int (iI (x 20 0))])), (q 8, .inl (T 0, 1680, .inl (fun jj : Nat => (iF (x 4)) (jj : Int)))), (q 10, .inr (0, [.ref (q 1), .ref (q 11)])), (q 11, .inl (T 0, n, .inl (fun jj : Nat => (iF d) (jj : Int)))), (q 1, .inr (3, [.ref (q 2)])), (q 2, .inl (T 0, n, .inl (fun jj : Nat => (ceF (x 0) (x 1)) (jj : Int))))]) rfl (by decide) (by decide) (fun _ => rfl) (by decide) (fun r u_ H locs hq54 hP hD hS => ?_)
        rcases hq54 with ⟨rfl, h54⟩ | ⟨rfl, h54⟩
        · refine cx_if_ne (tgt := 68) hx hb d_PR_takeAddresses_57 rfl (by omega) (fun _ => ?_) (fun h0 => absurd h0 (by decide))
          refine lv_aload_n hx hb d_PR_takeAddresses_68 rfl (lv_at hl 0 rfl) ?_
          refine lv_dup hx hb d_PR_takeAddresses_69 rfl ?_
          refine va_get (D := D) (ci := 2) (v := .int (iI (x 11 0))) (C := R_PR) (T := T_PR) (N := 12) hx hb hT lays_PR hown hK hP 0 rfl rfl 5 (by decide) (hT _ tw_83) (fun _ h9 => h9) rfl d_PR_takeAddresses_70 ?_
          refine lv_iload_n hx hb d_PR_takeAddresses_73 rfl (lv_at hl 2 rfl) ?_
          refine cx_iadd hx hb d_PR_takeAddresses_74 ?_
          refine va_put (D := D) (ci := 2) (v := .int (iI ((x 11 0) + k))) (ty := .int) (C := R_PR) (T := T_PR) (N := 12) hx hb hT lays_PR t_PR t_PR_ok n_PR hown hK hP hD hS 0 rfl rfl 5 (by decide) (hT _ tw_83) (fun _ h9 => h9) rfl (by decide +kernel) rfl rfl (Nat.le_of_ble_eq_true rfl) d_PR_takeAddresses_75 (fun H locs hP hD hS => ?_)
          have hP : va_P D vwCl (prW T q n d (x 0) (x 1) (x 2) (x 3) (x 4) ((x 11 0) + k) (x 12 0) (x 13 0) (x 14 0) (x 15 0) (x 16 0) (x 17 0) (x 18 0) (x 19 0) (x 20 0)) H := hP
          have hD : va_D A (prW T q n d (x 0) (x 1) (x 2) (x 3) (x 4) ((x 11 0) + k) (x 12 0) (x 13 0) (x 14 0) (x 15 0) (x 16 0) (x 17 0) (x 18 0) (x 19 0) (x 20 0)) := hD
          exact hret (up x 11 (cst ((x 11 0) + k))) (⟨by unfold takS takA takB; first | (exfalso; omega) | skip; repeat (first | rfl | (rw [if_pos (by omega)]) | (rw [if_neg (by omega)]) | (rw [if_neg (by unfold aln at *; omega)]) | (rw [if_pos (by unfold aln at *; omega)])), (show okX (up x 11 (cst ((x 11 0) + k))) from ⟨hX.1, (show okR ((x 11 0) + k) (x 12 0) (x 13 0) (x 14 0) (x 15 0) (x 16 0) (x 17 0) (x 18 0) (x 19 0) (x 20 0) by have h8 := hX.2.1; unfold okR at h8 ⊢; omega), hX.2.2⟩)⟩) hP hD hS d_PR_takeAddresses_78
        · refine cx_if_ne (tgt := 68) hx hb d_PR_takeAddresses_57 rfl (by omega) (fun h0 => absurd h0 (by decide)) (fun _ => ?_)
          refine lv_aload_n hx hb d_PR_takeAddresses_60 rfl (lv_at hl 0 rfl) ?_
          refine lv_aload_n hx hb d_PR_takeAddresses_61 rfl (lv_at hl 0 rfl) ?_
          refine va_get (D := D) (ci := 2) (v := .int (iI (x 12 0))) (C := R_PR) (T := T_PR) (N := 12) hx hb hT lays_PR hown hK hP 0 rfl rfl 6 (by decide) (hT _ tw_85) (fun _ h9 => h9) rfl d_PR_takeAddresses_62 ?_
          refine va_put (D := D) (ci := 2) (v := .int (iI (x 12 0))) (ty := .int) (C := R_PR) (T := T_PR) (N := 12) hx hb hT lays_PR t_PR t_PR_ok n_PR hown hK hP hD hS 0 rfl rfl 7 (by decide) (hT _ tw_87) (fun _ h9 => h9) rfl (by decide +kernel) rfl rfl (Nat.le_of_ble_eq_true rfl) d_PR_takeAddresses_65 (fun H locs hP hD hS => ?_)
          have hP : va_P D vwCl (prW T q n d (x 0) (x 1) (x 2) (x 3) (x 4) (x 11 0) (x 12 0) (x 12 0) (x 14 0) (x 15 0) (x 16 0) (x 17 0) (x 18 0) (x 19 0) (x 20 0)) H := hP
          have hD : va_D A (prW T q n d (x 0) (x 1) (x 2) (x 3) (x 4) (x 11 0) (x 12 0) (x 12 0) (x 14 0) (x 15 0) (x 16 0) (x 17 0) (x 18 0) (x 19 0) (x 20 0)) := hD
          refine lv_aload_n hx hb d_PR_takeAddresses_68 rfl (lv_at hl 0 rfl) ?_
          refine lv_dup hx hb d_PR_takeAddresses_69 rfl ?_
          refine va_get (D := D) (ci := 2) (v := .int (iI (x 11 0))) (C := R_PR) (T := T_PR) (N := 12) hx hb hT lays_PR hown hK hP 0 rfl rfl 5 (by decide) (hT _ tw_83) (fun _ h9 => h9) rfl d_PR_takeAddresses_70 ?_
          refine lv_iload_n hx hb d_PR_takeAddresses_73 rfl (lv_at hl 2 rfl) ?_
          refine cx_iadd hx hb d_PR_takeAddresses_74 ?_
          refine va_put (D := D) (ci := 2) (v := .int (iI ((x 11 0) + k))) (ty := .int) (C := R_PR) (T := T_PR) (N := 12) hx hb hT lays_PR t_PR t_PR_ok n_PR hown hK hP hD hS 0 rfl rfl 5 (by decide) (hT _ tw_83) (fun _ h9 => h9) rfl (by decide +kernel) rfl rfl (Nat.le_of_ble_eq_true rfl) d_PR_takeAddresses_75 (fun H locs hP hD hS => ?_)
          have hP : va_P D vwCl (prW T q n d (x 0) (x 1) (x 2) (x 3) (x 4) ((x 11 0) + k) (x 12 0) (x 12 0) (x 14 0) (x 15 0) (x 16 0) (x 17 0) (x 18 0) (x 19 0) (x 20 0)) H := hP
          have hD : va_D A (prW T q n d (x 0) (x 1) (x 2) (x 3) (x 4) ((x 11 0) + k) (x 12 0) (x 12 0) (x 14 0) (x 15 0) (x 16 0) (x 17 0) (x 18 0) (x 19 0) (x 20 0)) := hD
          exact hret (up (up x 11 (cst ((x 11 0) + k))) 13 (x 12)) (⟨by unfold takS takA takB; first | (exfalso; omega) | skip; repeat (first | rfl | (rw [if_pos (by omega)]) | (rw [if_neg (by omega)]) | (rw [if_neg (by unfold aln at *; omega)]) | (rw [if_pos (by unfold aln at *; omega)])), (show okX (up (up x 11 (cst ((x 11 0) + k))) 13 (x 12)) from ⟨hX.1, (show okR ((x 11 0) + k) (x 12 0) (x 12 0) (x 14 0) (x 15 0) (x 16 0) (x 17 0) (x 18 0) (x 19 0) (x 20 0) by have h8 := hX.2.1; unfold okR at h8 ⊢; omega), hX.2.2⟩)⟩) hP hD hS d_PR_takeAddresses_78
    · refine lv_aload_n hx hb d_PR_takeAddresses_28 rfl (lv_at hl 0 rfl) ?_
      refine lv_aload_n hx hb d_PR_takeAddresses_29 rfl (lv_at hl 0 rfl) ?_
      refine va_get (D := D) (ci := 2) (v := .ref (q 1)) (C := R_PR) (T := T_PR) (N := 12) hx hb hT lays_PR hown hK hP 0 rfl rfl 0 (by decide) (hT _ tw_78) (fun _ h9 => h9) rfl d_PR_takeAddresses_30 ?_
      refine lv_aload_n hx hb d_PR_takeAddresses_33 rfl (lv_at hl 0 rfl) ?_
      refine va_get (D := D) (ci := 2) (v := .int (iI (x 11 0))) (C := R_PR) (T := T_PR) (N := 12) hx hb hT lays_PR hown hK hP 0 rfl rfl 5 (by decide) (hT _ tw_83) (fun _ h9 => h9) rfl d_PR_takeAddresses_34 ?_
      refine cx_iconst hx hb d_PR_takeAddresses_37 ?_
      refine cx_iadd hx hb d_PR_takeAddresses_38 ?_
      refine cx_cI (ws2 := fun _ => prW T q n d (x 0) (x 1) (x 2) (x 3) (x 4) (x 11 0) (x 12 0) (x 13 0) (x 14 0) (x 15 0) (x 16 0) (x 17 0) (x 18 0) (x 19 0) (x 20 0)) (cx_rV (q0 := 9) (ci := 3) (rest := [.ref (q 9)]) (As := [.int (iI ((x 11 0) + 4))]) hx hb hml hown hT hK hN hP hD hl.1 tw_337 k_ST_address (c_ST_address l D T s.heap.size q n (x 0) (x 1) hn hC ((x 11 0) + 4) (by omega)) ⟨by decide, by decide⟩ ⟨rfl, rfl⟩ [9, 10] (by decide) rfl rfl rfl rfl rfl (Nat.le_of_ble_eq_true rfl) ⟨Nat.zero_le _, Nat.zero_le _⟩ d_PR_takeAddresses_39) hP hD hS hA [9, 10] [0, 1, 2, 3, 4, 5, 6, 7, 8] [0, 1, 2, 3, 4, 5, 6, 7, 8, 9, 10] rfl (wr := [(q 9, .inr (2, [.ref (q 1), .ref (q 3), .ref (q 5), .ref (q 7), .ref (q 10), .int (iI (x 11 0)), .int (iI (x 12 0)), .int (iI (x 13 0)), .int (iI (x 14 0)), .int (iI (x 15 0)), .int (iI (x 16 0)), .int (iI (x 17 0))])), (q 3, .inr (1, [.int (iI (20)), .int (iI (80)), .ref (q 4), .int (iI (x 18 0))])), (q 4, .inl (T 0, 1680, .inl (fun jj : Nat => (iF (x 2)) (jj : Int)))), (q 5, .inr (1, [.int (iI (40)), .int (iI (132)), .ref (q 6), .int (iI (x 19 0))])), (q 6, .inl (T 0, 5412, .inl (fun jj : Nat => (iF (x 3)) (jj : Int)))), (q 7, .inr (1, [.int (iI (20)), .int (iI (80)), .ref (q 8), .int (iI (x 20 0))])), (q 8, .inl (T 0, 1680, .inl (fun jj : Nat => (iF (x 4)) (jj : Int)))), (q 10, .inr (0, [.ref (q 1), .ref (q 11)])), (q 11, .inl (T 0, n, .inl (fun jj : Nat => (iF d) (jj : Int))))]) rfl (by decide) (by decide) (fun _ => rfl) (by decide) (fun r u_ H locs hq39 hP hD hS => ?_)
      subst hq39
      refine va_put (D := D) (ci := 2) (v := .int (iI (adr (x 0) ((x 11 0) + 4)))) (ty := .int) (C := R_PR) (T := T_PR) (N := 12) hx hb hT lays_PR t_PR t_PR_ok n_PR hown hK hP hD hS 0 rfl rfl 7 (by decide) (hT _ tw_87) (fun _ h9 => h9) rfl (by decide +kernel) rfl rfl (Nat.le_of_ble_eq_true rfl) d_PR_takeAddresses_42 (fun H locs hP hD hS => ?_)
      have hP : va_P D vwCl (prW T q n d (x 0) (x 1) (x 2) (x 3) (x 4) (x 11 0) (x 12 0) (adr (x 0) ((x 11 0) + 4)) (x 14 0) (x 15 0) (x 16 0) (x 17 0) (x 18 0) (x 19 0) (x 20 0)) H := hP
      have hD : va_D A (prW T q n d (x 0) (x 1) (x 2) (x 3) (x 4) (x 11 0) (x 12 0) (adr (x 0) ((x 11 0) + 4)) (x 14 0) (x 15 0) (x 16 0) (x 17 0) (x 18 0) (x 19 0) (x 20 0)) := hD
      refine lv_goto (tgt := 68) hx hb d_PR_takeAddresses_45 rfl ?_
      refine lv_aload_n hx hb d_PR_takeAddresses_68 rfl (lv_at hl 0 rfl) ?_
      refine lv_dup hx hb d_PR_takeAddresses_69 rfl ?_
      refine va_get (D := D) (ci := 2) (v := .int (iI (x 11 0))) (C := R_PR) (T := T_PR) (N := 12) hx hb hT lays_PR hown hK hP 0 rfl rfl 5 (by decide) (hT _ tw_83) (fun _ h9 => h9) rfl d_PR_takeAddresses_70 ?_
      refine lv_iload_n hx hb d_PR_takeAddresses_73 rfl (lv_at hl 2 rfl) ?_
      refine cx_iadd hx hb d_PR_takeAddresses_74 ?_
      refine va_put (D := D) (ci := 2) (v := .int (iI ((x 11 0) + k))) (ty := .int) (C := R_PR) (T := T_PR) (N := 12) hx hb hT lays_PR t_PR t_PR_ok n_PR hown hK hP hD hS 0 rfl rfl 5 (by decide) (hT _ tw_83) (fun _ h9 => h9) rfl (by decide +kernel) rfl rfl (Nat.le_of_ble_eq_true rfl) d_PR_takeAddresses_75 (fun H locs hP hD hS => ?_)
      have hP : va_P D vwCl (prW T q n d (x 0) (x 1) (x 2) (x 3) (x 4) ((x 11 0) + k) (x 12 0) (adr (x 0) ((x 11 0) + 4)) (x 14 0) (x 15 0) (x 16 0) (x 17 0) (x 18 0) (x 19 0) (x 20 0)) H := hP
      have hD : va_D A (prW T q n d (x 0) (x 1) (x 2) (x 3) (x 4) ((x 11 0) + k) (x 12 0) (adr (x 0) ((x 11 0) + 4)) (x 14 0) (x 15 0) (x 16 0) (x 17 0) (x 18 0) (x 19 0) (x 20 0)) := hD
      exact hret (up (up x 11 (cst ((x 11 0) + k))) 13 (cst (adr (x 0) ((x 11 0) + 4)))) (⟨by unfold takS takA takB; first | (exfalso; omega) | skip; repeat (first | rfl | (rw [if_pos (by omega)]) | (rw [if_neg (by omega)]) | (rw [if_neg (by unfold aln at *; omega)]) | (rw [if_pos (by unfold aln at *; omega)])), (show okX (up (up x 11 (cst ((x 11 0) + k))) 13 (cst (adr (x 0) ((x 11 0) + 4)))) from ⟨hX.1, (show okR ((x 11 0) + k) (x 12 0) (adr (x 0) ((x 11 0) + 4)) (x 14 0) (x 15 0) (x 16 0) (x 17 0) (x 18 0) (x 19 0) (x 20 0) by have h8 := hX.2.1; unfold okR at h8 ⊢; omega), hX.2.2⟩)⟩) hP hD hS d_PR_takeAddresses_78
  · refine lv_aload_n hx hb d_PR_takeAddresses_5 rfl (lv_at hl 0 rfl) ?_
    refine lv_aload_n hx hb d_PR_takeAddresses_6 rfl (lv_at hl 0 rfl) ?_
    refine va_get (D := D) (ci := 2) (v := .ref (q 1)) (C := R_PR) (T := T_PR) (N := 12) hx hb hT lays_PR hown hK hP 0 rfl rfl 0 (by decide) (hT _ tw_78) (fun _ h9 => h9) rfl d_PR_takeAddresses_7 ?_
    refine lv_aload_n hx hb d_PR_takeAddresses_10 rfl (lv_at hl 0 rfl) ?_
    refine va_get (D := D) (ci := 2) (v := .int (iI (x 11 0))) (C := R_PR) (T := T_PR) (N := 12) hx hb hT lays_PR hown hK hP 0 rfl rfl 5 (by decide) (hT _ tw_83) (fun _ h9 => h9) rfl d_PR_takeAddresses_11 ?_
    refine cx_iconst hx hb d_PR_takeAddresses_14 ?_
    refine cx_iadd hx hb d_PR_takeAddresses_15 ?_
    refine cx_cI (ws2 := fun _ => prW T q n d (x 0) (x 1) (x 2) (x 3) (x 4) (x 11 0) (x 12 0) (x 13 0) (x 14 0) (x 15 0) (x 16 0) (x 17 0) (x 18 0) (x 19 0) (x 20 0)) (cx_rV (q0 := 9) (ci := 3) (rest := [.ref (q 9)]) (As := [.int (iI ((x 11 0) + 1))]) hx hb hml hown hT hK hN hP hD hl.1 tw_337 k_ST_address (c_ST_address l D T s.heap.size q n (x 0) (x 1) hn hC ((x 11 0) + 1) (by omega)) ⟨by decide, by decide⟩ ⟨rfl, rfl⟩ [9, 10] (by decide) rfl rfl rfl rfl rfl (Nat.le_of_ble_eq_true rfl) ⟨Nat.zero_le _, Nat.zero_le _⟩ d_PR_takeAddresses_16) hP hD hS hA [9, 10] [0, 1, 2, 3, 4, 5, 6, 7, 8] [0, 1, 2, 3, 4, 5, 6, 7, 8, 9, 10] rfl (wr := [(q 9, .inr (2, [.ref (q 1), .ref (q 3), .ref (q 5), .ref (q 7), .ref (q 10), .int (iI (x 11 0)), .int (iI (x 12 0)), .int (iI (x 13 0)), .int (iI (x 14 0)), .int (iI (x 15 0)), .int (iI (x 16 0)), .int (iI (x 17 0))])), (q 3, .inr (1, [.int (iI (20)), .int (iI (80)), .ref (q 4), .int (iI (x 18 0))])), (q 4, .inl (T 0, 1680, .inl (fun jj : Nat => (iF (x 2)) (jj : Int)))), (q 5, .inr (1, [.int (iI (40)), .int (iI (132)), .ref (q 6), .int (iI (x 19 0))])), (q 6, .inl (T 0, 5412, .inl (fun jj : Nat => (iF (x 3)) (jj : Int)))), (q 7, .inr (1, [.int (iI (20)), .int (iI (80)), .ref (q 8), .int (iI (x 20 0))])), (q 8, .inl (T 0, 1680, .inl (fun jj : Nat => (iF (x 4)) (jj : Int)))), (q 10, .inr (0, [.ref (q 1), .ref (q 11)])), (q 11, .inl (T 0, n, .inl (fun jj : Nat => (iF d) (jj : Int))))]) rfl (by decide) (by decide) (fun _ => rfl) (by decide) (fun r u_ H locs hq16 hP hD hS => ?_)
    subst hq16
    refine va_put (D := D) (ci := 2) (v := .int (iI (adr (x 0) ((x 11 0) + 1)))) (ty := .int) (C := R_PR) (T := T_PR) (N := 12) hx hb hT lays_PR t_PR t_PR_ok n_PR hown hK hP hD hS 0 rfl rfl 6 (by decide) (hT _ tw_85) (fun _ h9 => h9) rfl (by decide +kernel) rfl rfl (Nat.le_of_ble_eq_true rfl) d_PR_takeAddresses_19 (fun H locs hP hD hS => ?_)
    have hP : va_P D vwCl (prW T q n d (x 0) (x 1) (x 2) (x 3) (x 4) (x 11 0) (adr (x 0) ((x 11 0) + 1)) (x 13 0) (x 14 0) (x 15 0) (x 16 0) (x 17 0) (x 18 0) (x 19 0) (x 20 0)) H := hP
    have hD : va_D A (prW T q n d (x 0) (x 1) (x 2) (x 3) (x 4) (x 11 0) (adr (x 0) ((x 11 0) + 1)) (x 13 0) (x 14 0) (x 15 0) (x 16 0) (x 17 0) (x 18 0) (x 19 0) (x 20 0)) := hD
    refine lv_iload_n hx hb d_PR_takeAddresses_22 rfl (lv_at hl 2 rfl) ?_
    refine cx_bipush hx hb d_PR_takeAddresses_23 rfl ?_
    refine cx_icmp_lt (tgt := 48) hx hb d_PR_takeAddresses_25 rfl (by omega) (by omega) (fun h25 => ?_) (fun h25 => ?_)
    · refine lv_iload_n hx hb d_PR_takeAddresses_48 rfl (lv_at hl 2 rfl) ?_
      refine cx_iconst hx hb d_PR_takeAddresses_49 ?_
      refine cx_icmp_lt (tgt := 68) hx hb d_PR_takeAddresses_50 rfl (by omega) (by omega) (fun h50 => ?_) (fun h50 => ?_)
      · refine lv_aload_n hx hb d_PR_takeAddresses_68 rfl (lv_at hl 0 rfl) ?_
        refine lv_dup hx hb d_PR_takeAddresses_69 rfl ?_
        refine va_get (D := D) (ci := 2) (v := .int (iI (x 11 0))) (C := R_PR) (T := T_PR) (N := 12) hx hb hT lays_PR hown hK hP 0 rfl rfl 5 (by decide) (hT _ tw_83) (fun _ h9 => h9) rfl d_PR_takeAddresses_70 ?_
        refine lv_iload_n hx hb d_PR_takeAddresses_73 rfl (lv_at hl 2 rfl) ?_
        refine cx_iadd hx hb d_PR_takeAddresses_74 ?_
        refine va_put (D := D) (ci := 2) (v := .int (iI ((x 11 0) + k))) (ty := .int) (C := R_PR) (T := T_PR) (N := 12) hx hb hT lays_PR t_PR t_PR_ok n_PR hown hK hP hD hS 0 rfl rfl 5 (by decide) (hT _ tw_83) (fun _ h9 => h9) rfl (by decide +kernel) rfl rfl (Nat.le_of_ble_eq_true rfl) d_PR_takeAddresses_75 (fun H locs hP hD hS => ?_)
        have hP : va_P D vwCl (prW T q n d (x 0) (x 1) (x 2) (x 3) (x 4) ((x 11 0) + k) (adr (x 0) ((x 11 0) + 1)) (x 13 0) (x 14 0) (x 15 0) (x 16 0) (x 17 0) (x 18 0) (x 19 0) (x 20 0)) H := hP
        have hD : va_D A (prW T q n d (x 0) (x 1) (x 2) (x 3) (x 4) ((x 11 0) + k) (adr (x 0) ((x 11 0) + 1)) (x 13 0) (x 14 0) (x 15 0) (x 16 0) (x 17 0) (x 18 0) (x 19 0) (x 20 0)) := hD
        exact hret (up (up x 11 (cst ((x 11 0) + k))) 12 (cst (adr (x 0) ((x 11 0) + 1)))) (⟨by unfold takS takA takB; first | (exfalso; omega) | skip; repeat (first | rfl | (rw [if_pos (by omega)]) | (rw [if_neg (by omega)]) | (rw [if_neg (by unfold aln at *; omega)]) | (rw [if_pos (by unfold aln at *; omega)])), (show okX (up (up x 11 (cst ((x 11 0) + k))) 12 (cst (adr (x 0) ((x 11 0) + 1)))) from ⟨hX.1, (show okR ((x 11 0) + k) (adr (x 0) ((x 11 0) + 1)) (x 13 0) (x 14 0) (x 15 0) (x 16 0) (x 17 0) (x 18 0) (x 19 0) (x 20 0) by have h8 := hX.2.1; unfold okR at h8 ⊢; omega), hX.2.2⟩)⟩) hP hD hS d_PR_takeAddresses_78
      · refine lv_iload_n hx hb d_PR_takeAddresses_53 rfl (lv_at hl 1 rfl) ?_
        refine cx_cI (ws2 := fun _ => prW T q n d (x 0) (x 1) (x 2) (x 3) (x 4) (x 11 0) (adr (x 0) ((x 11 0) + 1)) (x 13 0) (x 14 0) (x 15 0) (x 16 0) (x 17 0) (x 18 0) (x 19 0) (x 20 0)) (cx_rS (rest := []) (As := [.int (iI (o))]) hx hb hml hown hT hK hN hP hD hl.1 tw_349 k_PR_keepsB (c_PR_keepsB l D T H.size o (by omega)) ⟨by decide, by decide⟩ ⟨rfl, rfl⟩ [] (by decide) rfl rfl rfl (Nat.le_of_ble_eq_true rfl) ⟨Nat.zero_le _, Nat.zero_le _⟩ d_PR_takeAddresses_54) hP hD hS hA [] [0, 1, 2, 3, 4, 5, 6, 7, 8, 9, 10] [0, 1, 2, 3, 4, 5, 6, 7, 8, 9, 10] rfl (wr := [(q 9, .inr (2, [.ref (q 1), .ref (q 3), .ref (q 5), .ref (q 7), .ref (q 10), .int (iI (x 11 0)), .int (iI (adr (x 0) ((x 11 0) + 1))), .int (iI (x 13 0)), .int (iI (x 14 0)), .int (iI (x 15 0)), .int (iI (x 16 0)), .int (iI (x 17 0))])), (q 3, .inr (1, [.int (iI (20)), .int (iI (80)), .ref (q 4), .int (iI (x 18 0))])), (q 4, .inl (T 0, 1680, .inl (fun jj : Nat => (iF (x 2)) (jj : Int)))), (q 5, .inr (1, [.int (iI (40)), .int (iI (132)), .ref (q 6), .int (iI (x 19 0))])), (q 6, .inl (T 0, 5412, .inl (fun jj : Nat => (iF (x 3)) (jj : Int)))), (q 7, .inr (1, [.int (iI (20)), .int (iI (80)), .ref (q 8), .int (iI (x 20 0))])), (q 8, .inl (T 0, 1680, .inl (fun jj : Nat => (iF (x 4)) (jj : Int)))), (q 10, .inr (0, [.ref (q 1), .ref (q 11)])), (q 11, .inl (T 0, n, .inl (fun jj : Nat => (iF d) (jj : Int)))), (q 1, .inr (3, [.ref (q 2)])), (q 2, .inl (T 0, n, .inl (fun jj : Nat => (ceF (x 0) (x 1)) (jj : Int))))]) rfl (by decide) (by decide) (fun _ => rfl) (by decide) (fun r u_ H locs hq54 hP hD hS => ?_)
        rcases hq54 with ⟨rfl, h54⟩ | ⟨rfl, h54⟩
        · refine cx_if_ne (tgt := 68) hx hb d_PR_takeAddresses_57 rfl (by omega) (fun _ => ?_) (fun h0 => absurd h0 (by decide))
          refine lv_aload_n hx hb d_PR_takeAddresses_68 rfl (lv_at hl 0 rfl) ?_
          refine lv_dup hx hb d_PR_takeAddresses_69 rfl ?_
          refine va_get (D := D) (ci := 2) (v := .int (iI (x 11 0))) (C := R_PR) (T := T_PR) (N := 12) hx hb hT lays_PR hown hK hP 0 rfl rfl 5 (by decide) (hT _ tw_83) (fun _ h9 => h9) rfl d_PR_takeAddresses_70 ?_
          refine lv_iload_n hx hb d_PR_takeAddresses_73 rfl (lv_at hl 2 rfl) ?_
          refine cx_iadd hx hb d_PR_takeAddresses_74 ?_
          refine va_put (D := D) (ci := 2) (v := .int (iI ((x 11 0) + k))) (ty := .int) (C := R_PR) (T := T_PR) (N := 12) hx hb hT lays_PR t_PR t_PR_ok n_PR hown hK hP hD hS 0 rfl rfl 5 (by decide) (hT _ tw_83) (fun _ h9 => h9) rfl (by decide +kernel) rfl rfl (Nat.le_of_ble_eq_true rfl) d_PR_takeAddresses_75 (fun H locs hP hD hS => ?_)
          have hP : va_P D vwCl (prW T q n d (x 0) (x 1) (x 2) (x 3) (x 4) ((x 11 0) + k) (adr (x 0) ((x 11 0) + 1)) (x 13 0) (x 14 0) (x 15 0) (x 16 0) (x 17 0) (x 18 0) (x 19 0) (x 20 0)) H := hP
          have hD : va_D A (prW T q n d (x 0) (x 1) (x 2) (x 3) (x 4) ((x 11 0) + k) (adr (x 0) ((x 11 0) + 1)) (x 13 0) (x 14 0) (x 15 0) (x 16 0) (x 17 0) (x 18 0) (x 19 0) (x 20 0)) := hD
          exact hret (up (up x 11 (cst ((x 11 0) + k))) 12 (cst (adr (x 0) ((x 11 0) + 1)))) (⟨by unfold takS takA takB; first | (exfalso; omega) | skip; repeat (first | rfl | (rw [if_pos (by omega)]) | (rw [if_neg (by omega)]) | (rw [if_neg (by unfold aln at *; omega)]) | (rw [if_pos (by unfold aln at *; omega)])), (show okX (up (up x 11 (cst ((x 11 0) + k))) 12 (cst (adr (x 0) ((x 11 0) + 1)))) from ⟨hX.1, (show okR ((x 11 0) + k) (adr (x 0) ((x 11 0) + 1)) (x 13 0) (x 14 0) (x 15 0) (x 16 0) (x 17 0) (x 18 0) (x 19 0) (x 20 0) by have h8 := hX.2.1; unfold okR at h8 ⊢; omega), hX.2.2⟩)⟩) hP hD hS d_PR_takeAddresses_78
        · refine cx_if_ne (tgt := 68) hx hb d_PR_takeAddresses_57 rfl (by omega) (fun h0 => absurd h0 (by decide)) (fun _ => ?_)
          refine lv_aload_n hx hb d_PR_takeAddresses_60 rfl (lv_at hl 0 rfl) ?_
          refine lv_aload_n hx hb d_PR_takeAddresses_61 rfl (lv_at hl 0 rfl) ?_
          refine va_get (D := D) (ci := 2) (v := .int (iI (adr (x 0) ((x 11 0) + 1)))) (C := R_PR) (T := T_PR) (N := 12) hx hb hT lays_PR hown hK hP 0 rfl rfl 6 (by decide) (hT _ tw_85) (fun _ h9 => h9) rfl d_PR_takeAddresses_62 ?_
          refine va_put (D := D) (ci := 2) (v := .int (iI (adr (x 0) ((x 11 0) + 1)))) (ty := .int) (C := R_PR) (T := T_PR) (N := 12) hx hb hT lays_PR t_PR t_PR_ok n_PR hown hK hP hD hS 0 rfl rfl 7 (by decide) (hT _ tw_87) (fun _ h9 => h9) rfl (by decide +kernel) rfl rfl (Nat.le_of_ble_eq_true rfl) d_PR_takeAddresses_65 (fun H locs hP hD hS => ?_)
          have hP : va_P D vwCl (prW T q n d (x 0) (x 1) (x 2) (x 3) (x 4) (x 11 0) (adr (x 0) ((x 11 0) + 1)) (adr (x 0) ((x 11 0) + 1)) (x 14 0) (x 15 0) (x 16 0) (x 17 0) (x 18 0) (x 19 0) (x 20 0)) H := hP
          have hD : va_D A (prW T q n d (x 0) (x 1) (x 2) (x 3) (x 4) (x 11 0) (adr (x 0) ((x 11 0) + 1)) (adr (x 0) ((x 11 0) + 1)) (x 14 0) (x 15 0) (x 16 0) (x 17 0) (x 18 0) (x 19 0) (x 20 0)) := hD
          refine lv_aload_n hx hb d_PR_takeAddresses_68 rfl (lv_at hl 0 rfl) ?_
          refine lv_dup hx hb d_PR_takeAddresses_69 rfl ?_
          refine va_get (D := D) (ci := 2) (v := .int (iI (x 11 0))) (C := R_PR) (T := T_PR) (N := 12) hx hb hT lays_PR hown hK hP 0 rfl rfl 5 (by decide) (hT _ tw_83) (fun _ h9 => h9) rfl d_PR_takeAddresses_70 ?_
          refine lv_iload_n hx hb d_PR_takeAddresses_73 rfl (lv_at hl 2 rfl) ?_
          refine cx_iadd hx hb d_PR_takeAddresses_74 ?_
          refine va_put (D := D) (ci := 2) (v := .int (iI ((x 11 0) + k))) (ty := .int) (C := R_PR) (T := T_PR) (N := 12) hx hb hT lays_PR t_PR t_PR_ok n_PR hown hK hP hD hS 0 rfl rfl 5 (by decide) (hT _ tw_83) (fun _ h9 => h9) rfl (by decide +kernel) rfl rfl (Nat.le_of_ble_eq_true rfl) d_PR_takeAddresses_75 (fun H locs hP hD hS => ?_)
          have hP : va_P D vwCl (prW T q n d (x 0) (x 1) (x 2) (x 3) (x 4) ((x 11 0) + k) (adr (x 0) ((x 11 0) + 1)) (adr (x 0) ((x 11 0) + 1)) (x 14 0) (x 15 0) (x 16 0) (x 17 0) (x 18 0) (x 19 0) (x 20 0)) H := hP
          have hD : va_D A (prW T q n d (x 0) (x 1) (x 2) (x 3) (x 4) ((x 11 0) + k) (adr (x 0) ((x 11 0) + 1)) (adr (x 0) ((x 11 0) + 1)) (x 14 0) (x 15 0) (x 16 0) (x 17 0) (x 18 0) (x 19 0) (x 20 0)) := hD
          exact hret (up (up (up x 11 (cst ((x 11 0) + k))) 12 (cst (adr (x 0) ((x 11 0) + 1)))) 13 (cst (adr (x 0) ((x 11 0) + 1)))) (⟨by unfold takS takA takB; first | (exfalso; omega) | skip; repeat (first | rfl | (rw [if_pos (by omega)]) | (rw [if_neg (by omega)]) | (rw [if_neg (by unfold aln at *; omega)]) | (rw [if_pos (by unfold aln at *; omega)])), (show okX (up (up (up x 11 (cst ((x 11 0) + k))) 12 (cst (adr (x 0) ((x 11 0) + 1)))) 13 (cst (adr (x 0) ((x 11 0) + 1)))) from ⟨hX.1, (show okR ((x 11 0) + k) (adr (x 0) ((x 11 0) + 1)) (adr (x 0) ((x 11 0) + 1)) (x 14 0) (x 15 0) (x 16 0) (x 17 0) (x 18 0) (x 19 0) (x 20 0) by have h8 := hX.2.1; unfold okR at h8 ⊢; omega), hX.2.2⟩)⟩) hP hD hS d_PR_takeAddresses_78
    · refine lv_aload_n hx hb d_PR_takeAddresses_28 rfl (lv_at hl 0 rfl) ?_
      refine lv_aload_n hx hb d_PR_takeAddresses_29 rfl (lv_at hl 0 rfl) ?_
      refine va_get (D := D) (ci := 2) (v := .ref (q 1)) (C := R_PR) (T := T_PR) (N := 12) hx hb hT lays_PR hown hK hP 0 rfl rfl 0 (by decide) (hT _ tw_78) (fun _ h9 => h9) rfl d_PR_takeAddresses_30 ?_
      refine lv_aload_n hx hb d_PR_takeAddresses_33 rfl (lv_at hl 0 rfl) ?_
      refine va_get (D := D) (ci := 2) (v := .int (iI (x 11 0))) (C := R_PR) (T := T_PR) (N := 12) hx hb hT lays_PR hown hK hP 0 rfl rfl 5 (by decide) (hT _ tw_83) (fun _ h9 => h9) rfl d_PR_takeAddresses_34 ?_
      refine cx_iconst hx hb d_PR_takeAddresses_37 ?_
      refine cx_iadd hx hb d_PR_takeAddresses_38 ?_
      refine cx_cI (ws2 := fun _ => prW T q n d (x 0) (x 1) (x 2) (x 3) (x 4) (x 11 0) (adr (x 0) ((x 11 0) + 1)) (x 13 0) (x 14 0) (x 15 0) (x 16 0) (x 17 0) (x 18 0) (x 19 0) (x 20 0)) (cx_rV (q0 := 9) (ci := 3) (rest := [.ref (q 9)]) (As := [.int (iI ((x 11 0) + 4))]) hx hb hml hown hT hK hN hP hD hl.1 tw_337 k_ST_address (c_ST_address l D T H.size q n (x 0) (x 1) hn hC ((x 11 0) + 4) (by omega)) ⟨by decide, by decide⟩ ⟨rfl, rfl⟩ [9, 10] (by decide) rfl rfl rfl rfl rfl (Nat.le_of_ble_eq_true rfl) ⟨Nat.zero_le _, Nat.zero_le _⟩ d_PR_takeAddresses_39) hP hD hS hA [9, 10] [0, 1, 2, 3, 4, 5, 6, 7, 8] [0, 1, 2, 3, 4, 5, 6, 7, 8, 9, 10] rfl (wr := [(q 9, .inr (2, [.ref (q 1), .ref (q 3), .ref (q 5), .ref (q 7), .ref (q 10), .int (iI (x 11 0)), .int (iI (adr (x 0) ((x 11 0) + 1))), .int (iI (x 13 0)), .int (iI (x 14 0)), .int (iI (x 15 0)), .int (iI (x 16 0)), .int (iI (x 17 0))])), (q 3, .inr (1, [.int (iI (20)), .int (iI (80)), .ref (q 4), .int (iI (x 18 0))])), (q 4, .inl (T 0, 1680, .inl (fun jj : Nat => (iF (x 2)) (jj : Int)))), (q 5, .inr (1, [.int (iI (40)), .int (iI (132)), .ref (q 6), .int (iI (x 19 0))])), (q 6, .inl (T 0, 5412, .inl (fun jj : Nat => (iF (x 3)) (jj : Int)))), (q 7, .inr (1, [.int (iI (20)), .int (iI (80)), .ref (q 8), .int (iI (x 20 0))])), (q 8, .inl (T 0, 1680, .inl (fun jj : Nat => (iF (x 4)) (jj : Int)))), (q 10, .inr (0, [.ref (q 1), .ref (q 11)])), (q 11, .inl (T 0, n, .inl (fun jj : Nat => (iF d) (jj : Int))))]) rfl (by decide) (by decide) (fun _ => rfl) (by decide) (fun r u_ H locs hq39 hP hD hS => ?_)
      subst hq39
      refine va_put (D := D) (ci := 2) (v := .int (iI (adr (x 0) ((x 11 0) + 4)))) (ty := .int) (C := R_PR) (T := T_PR) (N := 12) hx hb hT lays_PR t_PR t_PR_ok n_PR hown hK hP hD hS 0 rfl rfl 7 (by decide) (hT _ tw_87) (fun _ h9 => h9) rfl (by decide +kernel) rfl rfl (Nat.le_of_ble_eq_true rfl) d_PR_takeAddresses_42 (fun H locs hP hD hS => ?_)
      have hP : va_P D vwCl (prW T q n d (x 0) (x 1) (x 2) (x 3) (x 4) (x 11 0) (adr (x 0) ((x 11 0) + 1)) (adr (x 0) ((x 11 0) + 4)) (x 14 0) (x 15 0) (x 16 0) (x 17 0) (x 18 0) (x 19 0) (x 20 0)) H := hP
      have hD : va_D A (prW T q n d (x 0) (x 1) (x 2) (x 3) (x 4) (x 11 0) (adr (x 0) ((x 11 0) + 1)) (adr (x 0) ((x 11 0) + 4)) (x 14 0) (x 15 0) (x 16 0) (x 17 0) (x 18 0) (x 19 0) (x 20 0)) := hD
      refine lv_goto (tgt := 68) hx hb d_PR_takeAddresses_45 rfl ?_
      refine lv_aload_n hx hb d_PR_takeAddresses_68 rfl (lv_at hl 0 rfl) ?_
      refine lv_dup hx hb d_PR_takeAddresses_69 rfl ?_
      refine va_get (D := D) (ci := 2) (v := .int (iI (x 11 0))) (C := R_PR) (T := T_PR) (N := 12) hx hb hT lays_PR hown hK hP 0 rfl rfl 5 (by decide) (hT _ tw_83) (fun _ h9 => h9) rfl d_PR_takeAddresses_70 ?_
      refine lv_iload_n hx hb d_PR_takeAddresses_73 rfl (lv_at hl 2 rfl) ?_
      refine cx_iadd hx hb d_PR_takeAddresses_74 ?_
      refine va_put (D := D) (ci := 2) (v := .int (iI ((x 11 0) + k))) (ty := .int) (C := R_PR) (T := T_PR) (N := 12) hx hb hT lays_PR t_PR t_PR_ok n_PR hown hK hP hD hS 0 rfl rfl 5 (by decide) (hT _ tw_83) (fun _ h9 => h9) rfl (by decide +kernel) rfl rfl (Nat.le_of_ble_eq_true rfl) d_PR_takeAddresses_75 (fun H locs hP hD hS => ?_)
      have hP : va_P D vwCl (prW T q n d (x 0) (x 1) (x 2) (x 3) (x 4) ((x 11 0) + k) (adr (x 0) ((x 11 0) + 1)) (adr (x 0) ((x 11 0) + 4)) (x 14 0) (x 15 0) (x 16 0) (x 17 0) (x 18 0) (x 19 0) (x 20 0)) H := hP
      have hD : va_D A (prW T q n d (x 0) (x 1) (x 2) (x 3) (x 4) ((x 11 0) + k) (adr (x 0) ((x 11 0) + 1)) (adr (x 0) ((x 11 0) + 4)) (x 14 0) (x 15 0) (x 16 0) (x 17 0) (x 18 0) (x 19 0) (x 20 0)) := hD
      exact hret (up (up (up x 11 (cst ((x 11 0) + k))) 12 (cst (adr (x 0) ((x 11 0) + 1)))) 13 (cst (adr (x 0) ((x 11 0) + 4)))) (⟨by unfold takS takA takB; first | (exfalso; omega) | skip; repeat (first | rfl | (rw [if_pos (by omega)]) | (rw [if_neg (by omega)]) | (rw [if_neg (by unfold aln at *; omega)]) | (rw [if_pos (by unfold aln at *; omega)])), (show okX (up (up (up x 11 (cst ((x 11 0) + k))) 12 (cst (adr (x 0) ((x 11 0) + 1)))) 13 (cst (adr (x 0) ((x 11 0) + 4)))) from ⟨hX.1, (show okR ((x 11 0) + k) (adr (x 0) ((x 11 0) + 1)) (adr (x 0) ((x 11 0) + 4)) (x 14 0) (x 15 0) (x 16 0) (x 17 0) (x 18 0) (x 19 0) (x 20 0) by have h8 := hX.2.1; unfold okR at h8 ⊢; omega), hX.2.2⟩)⟩) hP hD hS d_PR_takeAddresses_78
