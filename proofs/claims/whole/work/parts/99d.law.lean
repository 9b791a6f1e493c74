/-! the law's cases -/
abbrev laW (T : Nat → ClassId) (o : Nat) (g : Nat → Int64) (q : Nat → Nat) (n : Nat) (d : Int → Int) (xc : SX) (qm : Nat → Nat) (xm y : SX) : va_W := (o, .inl (T 3, 1, .inr (.inl g))) :: (cmX T q n d xc ++ moX T qm n xm y)
abbrev laL (j : Int) (q qm : Nat → Nat) (o b : Nat) : List (Nat × Value) := [(4, .int (iI (j))), (1, .ref (q 0)), (2, .ref (qm 20)), (3, .ref (o)), (0, .ref (b))]
def sv (xs : Nat → Int32) (z : Int) : Int := (xs z.toNat).toInt
theorem sv_in (xs : Nat → Int32) (z : Int) : -2147483648 ≤ sv xs z ∧ sv xs z < 2147483648 := ⟨Int32.le_toInt _, Int32.toInt_lt _⟩
/-- what stays the same all through the law -/
def laC (p : Program) (l : Launch) (e : Env) (s : State) (m : MethodId) (meth : Method) (c : Code) (b L : Nat) (xs : Nat → Int32) (A : Nat → Prop) (D : va_G) (T : Nat → ClassId) (n : Nat) : Prop :=
  p.tables.exec = Jvm.exec ∧ c.code = code ∧ c.maxLocals = 8 ∧ (∀ w ∈ BIG, w.before #[Value.ref b] s = true) ∧ s.vm.findClass R_LA = some m.cls ∧ va_K D vwCl (tyL T) s ∧ cx_N nwL s ∧ cx_Z A s ∧ (∀ q : Nat, s.heap.size ≤ q → A q) ∧ va_X b L xs s s.heap ∧ b < s.heap.size ∧ ¬ A b ∧ l.stackTraces = false ∧ L < 100000
/-- the rest of a turn -/
def laK (p : Program) (l : Launch) (e : Env) (s : State) (m : MethodId) (below : List Frame) (meth : Method) (c : Code) (b : Nat) (A : Nat → Prop) (D : va_G) (T : Nat → ClassId) (q qm : Nat → Nat) (o n : Nat) (Q : State → Prop) (j : Int) (cells slots : Nat) : Prop :=
  ∀ (x y : SX) (d : Int → Int) (g : Nat → Int64) (H : Heap) (locs : List Loc) (ls : Array Slot), okX x → va_P D vwCl (laW T o g q n d x qm x y) H → va_D A (laW T o g q n d x qm x y) → va_S A s.heap H locs → lv_has ls 8 (laL j q qm o b) → W p l e room_1 s m #[Value.ref b] below meth c H locs cells slots Q (F0 m 815 ls [])
section LAW
variable {p : Program} {l : Launch} {e : Env} {R : Room} {s : State} {m : MethodId} {args : Array Value} {below : List Frame} {meth : Method} {c : Code} {H : Heap} {locs : List Loc} {cells slots : Nat} {Q : State → Prop}
variable {cc : ByteArray} {pc : Nat} {ls : Array Slot} {rest : List Value} {A : Nat → Prop} {H0 : Heap} {b L o n : Nat} {xs : Nat → Int32} {D : va_G} {T : Nat → ClassId} {q qm : Nat → Nat}
theorem cx_sld (hx : p.tables.exec = Jvm.exec) (hb : c.code = cc) (hX : va_X b L xs s H0) (hbl : b < H0.size) (hbA : ¬ A b) (hS : va_S A H0 H locs) {z : Int} (hz : 0 ≤ z ∧ z < L) (hL : L < 2147483648) (hdg : decode cc pc = .ok (.iaload, 1))
    (kk : W p l e R s m args below meth c H locs cells slots Q (F0 m (pc + 1) ls (.int (iI (sv xs z)) :: rest))) : W p l e R s m args below meth c H locs cells slots Q (F0 m pc ls (.int (iI z) :: .ref b :: rest)) := by
  refine va_sld hx hb hX hbl hbA hS (iI_in hz hL) hdg ?_
  rw [iI_clamp (by omega), show xs z.toNat = iI (sv xs z) from (iI_ti _).symm]
  exact kk
set_option maxHeartbeats 4000000 in
set_option maxRecDepth 100000 in
theorem law_0 (C0 : laC p l e s m meth c b L xs A D T n) (hn : 400 ≤ n ∧ n ≤ 2000) (j : Int) (hj : 1 ≤ j ∧ j + 5 ≤ L) (x y : SX) (d : Int → Int) (g : Nat → Int64) (hX : okX x) {H : Heap} {locs : List Loc} {ls : Array Slot} {cells slots : Nat} (hf9 : cells + 1 ≤ 601024 ∧ slots + 6 ≤ 7293000) (hP : va_P D vwCl (laW T o g q n d x qm x y) H) (hD : va_D A (laW T o g q n d x qm x y)) (hS : va_S A s.heap H locs) (hl : lv_has ls 8 (laL j q qm o b)) (kk : laK p l e s m below meth c b A D T q qm o n Q j (cells + 1) (slots + 6)) : W p l e room_1 s m #[Value.ref b] below meth c H locs cells slots Q (F0 m 116 ls []) := by
  obtain ⟨hx, hb, hml, hT, hown, hK, hN, hZ, hA, hXs, hbl, hbA, hlt, hL⟩ := C0
  have hl : lv_has ls 8 [(4, .int (iI (j))), (1, .ref (q 0)), (2, .ref (qm 20)), (3, .ref (o)), (0, .ref (b))] := hl
  have hv1 := sv_in xs (j + 1)
  have hv2 := sv_in xs (j + 2)
  have hv3 := sv_in xs (j + 3)
  have hv4 := sv_in xs (j + 4)
  refine lv_aload_n hx hb d_LA_law_116 rfl (lv_at hl 1 rfl) ?_
  refine lv_aload_n hx hb d_LA_law_117 rfl (lv_at hl 4 rfl) ?_
  refine lv_iload hx hb d_LA_law_118 (lv_at hl 0 rfl) ?_
  refine cx_iconst hx hb d_LA_law_120 ?_
  refine cx_iadd hx hb d_LA_law_121 ?_
  refine cx_sld hx hb hXs hbl hbA hS (by omega) (by omega) d_LA_law_122 ?_
  refine lv_aload_n hx hb d_LA_law_123 rfl (lv_at hl 4 rfl) ?_
  refine lv_iload hx hb d_LA_law_124 (lv_at hl 0 rfl) ?_
  refine cx_iconst hx hb d_LA_law_126 ?_
  refine cx_iadd hx hb d_LA_law_127 ?_
  refine cx_sld hx hb hXs hbl hbA hS (by omega) (by omega) d_LA_law_128 ?_
  refine lv_aload_n hx hb d_LA_law_129 rfl (lv_at hl 4 rfl) ?_
  refine lv_iload hx hb d_LA_law_130 (lv_at hl 0 rfl) ?_
  refine cx_iconst hx hb d_LA_law_132 ?_
  refine cx_iadd hx hb d_LA_law_133 ?_
  refine cx_sld hx hb hXs hbl hbA hS (by omega) (by omega) d_LA_law_134 ?_
  refine cx_if_eq (tgt := 142) hx hb d_LA_law_135 rfl (by omega) (fun h135 => ?_) (fun h135 => ?_)
  · refine cx_iconst hx hb d_LA_law_142 ?_
    refine cx_cI (ws2 := fun (u : SX) => laW T o g q n d u qm x y) (cx_rV (q0 := 1) (ci := 4) (rest := []) (As := [.int (iI (sv xs (j + 1))), .int (iI (sv xs (j + 2))), .int (iI (0))]) hx hb hml hown hT hK hN hP hD hl.1 tw_143 k_CM_set (c_CM_set l D T H.size q n hn d x hX (sv xs (j + 1)) (by omega) (sv xs (j + 2)) (by omega) 0 (by omega)) ⟨by decide, by decide⟩ ⟨rfl, rfl⟩ [1, 2, 3, 4, 5, 6, 7, 8, 9, 10, 11, 12] (by decide) rfl rfl rfl rfl rfl (Nat.le_of_ble_eq_true rfl) ⟨by show _ ≤ (601024 : Nat); omega, by show _ ≤ (7293000 : Nat); omega⟩ d_LA_law_143) hP hD hS hA [1, 2, 3, 4, 5, 6, 7, 8, 9, 10, 11, 12] [0, 13, 14, 15, 16, 17, 18, 19, 20, 21, 22] [0, 11, 12, 13, 14, 15, 16, 17, 18, 19, 20, 21, 22, 1, 2, 3, 4, 5, 6, 7, 8, 9, 10] rfl (wr := (o, .inl (T 3, 1, .inr (.inl g))) :: moX T qm n x y) rfl (by decide) (by decide) (fun _ => rfl) (by decide) (fun r u_ H locs hq143 hP hD hS => ?_)
    obtain ⟨hr1, hu1, hE1⟩ := hq143
    subst hr1
    subst hu1
    have hP : va_P D vwCl (laW T o g q n d ((setS n (sv xs (j + 1)) (sv xs (j + 2)) 0 x).2) qm x y) H := hP
    have hD : va_D A (laW T o g q n d ((setS n (sv xs (j + 1)) (sv xs (j + 2)) 0 x).2) qm x y) := hD
    refine lv_aload_n hx hb d_LA_law_146 rfl (lv_at hl 2 rfl) ?_
    refine lv_aload_n hx hb d_LA_law_147 rfl (lv_at hl 4 rfl) ?_
    refine lv_iload hx hb d_LA_law_148 (lv_at hl 0 rfl) ?_
    refine cx_iconst hx hb d_LA_law_150 ?_
    refine cx_iadd hx hb d_LA_law_151 ?_
    refine cx_sld hx hb hXs hbl hbA hS (by omega) (by omega) d_LA_law_152 ?_
    refine lv_aload_n hx hb d_LA_law_153 rfl (lv_at hl 4 rfl) ?_
    refine lv_iload hx hb d_LA_law_154 (lv_at hl 0 rfl) ?_
    refine cx_iconst hx hb d_LA_law_156 ?_
    refine cx_iadd hx hb d_LA_law_157 ?_
    refine cx_sld hx hb hXs hbl hbA hS (by omega) (by omega) d_LA_law_158 ?_
    refine lv_aload_n hx hb d_LA_law_159 rfl (lv_at hl 4 rfl) ?_
    refine lv_iload hx hb d_LA_law_160 (lv_at hl 0 rfl) ?_
    refine cx_iconst hx hb d_LA_law_162 ?_
    refine cx_iadd hx hb d_LA_law_163 ?_
    refine cx_sld hx hb hXs hbl hbA hS (by omega) (by omega) d_LA_law_164 ?_
    refine cx_if_eq (tgt := 172) hx hb d_LA_law_165 rfl (by omega) (fun h165 => ?_) (fun h165 => absurd h165 (by omega))
    refine cx_iconst hx hb d_LA_law_172 ?_
    refine cx_cI (ws2 := fun (u : SX × SX) => laW T o g q n d ((setS n (sv xs (j + 1)) (sv xs (j + 2)) 0 x).2) qm u.1 u.2) (cx_rV (q0 := 13) (ci := 5) (rest := [.int (iI ((setS n (sv xs (j + 1)) (sv xs (j + 2)) 0 x).1))]) (As := [.int (iI (sv xs (j + 1))), .int (iI (sv xs (j + 2))), .int (iI (0))]) hx hb hml hown hT hK hN hP hD hl.1 tw_727 k_MO_set (c_MO_set l D T H.size qm n hn x y hX (sv xs (j + 1)) (by omega) (sv xs (j + 2)) (by omega) 0 (by omega)) ⟨by decide, by decide⟩ ⟨rfl, rfl⟩ [13, 14, 15, 16, 17, 18, 19, 20, 21, 22] (by decide) rfl rfl rfl rfl rfl (Nat.le_of_ble_eq_true rfl) ⟨by show _ ≤ (601024 : Nat); omega, by show _ ≤ (7293000 : Nat); omega⟩ d_LA_law_173) hP hD hS hA [13, 14, 15, 16, 17, 18, 19, 20, 21, 22] [0, 1, 2, 3, 4, 5, 6, 7, 8, 9, 10, 11, 12] [0, 1, 2, 3, 4, 5, 6, 7, 8, 9, 10, 11, 12, 13, 14, 15, 16, 17, 18, 19, 20, 21, 22] rfl (wr := (o, .inl (T 3, 1, .inr (.inl g))) :: cmX T q n d ((setS n (sv xs (j + 1)) (sv xs (j + 2)) 0 x).2)) rfl (by decide) (by decide) (fun _ => rfl) (by decide) (fun r u_ H locs hq173 hP hD hS => ?_)
    obtain ⟨⟨hr2, hu2, hE2⟩, hy2⟩ := hq173
    subst hr2
    rw [hu2] at hP hD
    have hP : va_P D vwCl (laW T o g q n d ((setS n (sv xs (j + 1)) (sv xs (j + 2)) 0 x).2) qm ((setS n (sv xs (j + 1)) (sv xs (j + 2)) 0 x).2) u_.2) H := hP
    have hD : va_D A (laW T o g q n d ((setS n (sv xs (j + 1)) (sv xs (j + 2)) 0 x).2) qm ((setS n (sv xs (j + 1)) (sv xs (j + 2)) 0 x).2) u_.2) := hD
    refine lv_icmp_eq (tgt := 815) hx hb d_LA_law_176 rfl (fun _ => ?_) (fun h0 => absurd rfl h0)
    exact W.widen (k := cells + 1) (n := slots + 6) (by omega) (by omega) (kk ((setS n (sv xs (j + 1)) (sv xs (j + 2)) 0 x).2) u_.2 d g _ _ _ hE1 hP hD hS (lv_sub hl [0, 1, 2, 3, 4] rfl))
  · refine cx_iconst hx hb d_LA_law_138 ?_
    refine lv_goto (tgt := 143) hx hb d_LA_law_139 rfl ?_
    refine cx_cI (ws2 := fun (u : SX) => laW T o g q n d u qm x y) (cx_rV (q0 := 1) (ci := 4) (rest := []) (As := [.int (iI (sv xs (j + 1))), .int (iI (sv xs (j + 2))), .int (iI (1))]) hx hb hml hown hT hK hN hP hD hl.1 tw_143 k_CM_set (c_CM_set l D T H.size q n hn d x hX (sv xs (j + 1)) (by omega) (sv xs (j + 2)) (by omega) 1 (by omega)) ⟨by decide, by decide⟩ ⟨rfl, rfl⟩ [1, 2, 3, 4, 5, 6, 7, 8, 9, 10, 11, 12] (by decide) rfl rfl rfl rfl rfl (Nat.le_of_ble_eq_true rfl) ⟨by show _ ≤ (601024 : Nat); omega, by show _ ≤ (7293000 : Nat); omega⟩ d_LA_law_143) hP hD hS hA [1, 2, 3, 4, 5, 6, 7, 8, 9, 10, 11, 12] [0, 13, 14, 15, 16, 17, 18, 19, 20, 21, 22] [0, 11, 12, 13, 14, 15, 16, 17, 18, 19, 20, 21, 22, 1, 2, 3, 4, 5, 6, 7, 8, 9, 10] rfl (wr := (o, .inl (T 3, 1, .inr (.inl g))) :: moX T qm n x y) rfl (by decide) (by decide) (fun _ => rfl) (by decide) (fun r u_ H locs hq143 hP hD hS => ?_)
    obtain ⟨hr1, hu1, hE1⟩ := hq143
    subst hr1
    subst hu1
    have hP : va_P D vwCl (laW T o g q n d ((setS n (sv xs (j + 1)) (sv xs (j + 2)) 1 x).2) qm x y) H := hP
    have hD : va_D A (laW T o g q n d ((setS n (sv xs (j + 1)) (sv xs (j + 2)) 1 x).2) qm x y) := hD
    refine lv_aload_n hx hb d_LA_law_146 rfl (lv_at hl 2 rfl) ?_
    refine lv_aload_n hx hb d_LA_law_147 rfl (lv_at hl 4 rfl) ?_
    refine lv_iload hx hb d_LA_law_148 (lv_at hl 0 rfl) ?_
    refine cx_iconst hx hb d_LA_law_150 ?_
    refine cx_iadd hx hb d_LA_law_151 ?_
    refine cx_sld hx hb hXs hbl hbA hS (by omega) (by omega) d_LA_law_152 ?_
    refine lv_aload_n hx hb d_LA_law_153 rfl (lv_at hl 4 rfl) ?_
    refine lv_iload hx hb d_LA_law_154 (lv_at hl 0 rfl) ?_
    refine cx_iconst hx hb d_LA_law_156 ?_
    refine cx_iadd hx hb d_LA_law_157 ?_
    refine cx_sld hx hb hXs hbl hbA hS (by omega) (by omega) d_LA_law_158 ?_
    refine lv_aload_n hx hb d_LA_law_159 rfl (lv_at hl 4 rfl) ?_
    refine lv_iload hx hb d_LA_law_160 (lv_at hl 0 rfl) ?_
    refine cx_iconst hx hb d_LA_law_162 ?_
    refine cx_iadd hx hb d_LA_law_163 ?_
    refine cx_sld hx hb hXs hbl hbA hS (by omega) (by omega) d_LA_law_164 ?_
    refine cx_if_eq (tgt := 172) hx hb d_LA_law_165 rfl (by omega) (fun h165 => absurd h165 (by omega)) (fun h165 => ?_)
    refine cx_iconst hx hb d_LA_law_168 ?_
    refine lv_goto (tgt := 173) hx hb d_LA_law_169 rfl ?_
    refine cx_cI (ws2 := fun (u : SX × SX) => laW T o g q n d ((setS n (sv xs (j + 1)) (sv xs (j + 2)) 1 x).2) qm u.1 u.2) (cx_rV (q0 := 13) (ci := 5) (rest := [.int (iI ((setS n (sv xs (j + 1)) (sv xs (j + 2)) 1 x).1))]) (As := [.int (iI (sv xs (j + 1))), .int (iI (sv xs (j + 2))), .int (iI (1))]) hx hb hml hown hT hK hN hP hD hl.1 tw_727 k_MO_set (c_MO_set l D T H.size qm n hn x y hX (sv xs (j + 1)) (by omega) (sv xs (j + 2)) (by omega) 1 (by omega)) ⟨by decide, by decide⟩ ⟨rfl, rfl⟩ [13, 14, 15, 16, 17, 18, 19, 20, 21, 22] (by decide) rfl rfl rfl rfl rfl (Nat.le_of_ble_eq_true rfl) ⟨by show _ ≤ (601024 : Nat); omega, by show _ ≤ (7293000 : Nat); omega⟩ d_LA_law_173) hP hD hS hA [13, 14, 15, 16, 17, 18, 19, 20, 21, 22] [0, 1, 2, 3, 4, 5, 6, 7, 8, 9, 10, 11, 12] [0, 1, 2, 3, 4, 5, 6, 7, 8, 9, 10, 11, 12, 13, 14, 15, 16, 17, 18, 19, 20, 21, 22] rfl (wr := (o, .inl (T 3, 1, .inr (.inl g))) :: cmX T q n d ((setS n (sv xs (j + 1)) (sv xs (j + 2)) 1 x).2)) rfl (by decide) (by decide) (fun _ => rfl) (by decide) (fun r u_ H locs hq173 hP hD hS => ?_)
    obtain ⟨⟨hr2, hu2, hE2⟩, hy2⟩ := hq173
    subst hr2
    rw [hu2] at hP hD
    have hP : va_P D vwCl (laW T o g q n d ((setS n (sv xs (j + 1)) (sv xs (j + 2)) 1 x).2) qm ((setS n (sv xs (j + 1)) (sv xs (j + 2)) 1 x).2) u_.2) H := hP
    have hD : va_D A (laW T o g q n d ((setS n (sv xs (j + 1)) (sv xs (j + 2)) 1 x).2) qm ((setS n (sv xs (j + 1)) (sv xs (j + 2)) 1 x).2) u_.2) := hD
    refine lv_icmp_eq (tgt := 815) hx hb d_LA_law_176 rfl (fun _ => ?_) (fun h0 => absurd rfl h0)
    exact W.widen (k := cells + 1) (n := slots + 6) (by omega) (by omega) (kk ((setS n (sv xs (j + 1)) (sv xs (j + 2)) 1 x).2) u_.2 d g _ _ _ hE1 hP hD hS (lv_sub hl [0, 1, 2, 3, 4] rfl))

set_option maxHeartbeats 4000000 in
set_option maxRecDepth 100000 in
theorem law_1 (C0 : laC p l e s m meth c b L xs A D T n) (hn : 400 ≤ n ∧ n ≤ 2000) (j : Int) (hj : 1 ≤ j ∧ j + 5 ≤ L) (x y : SX) (d : Int → Int) (g : Nat → Int64) (hX : okX x) {H : Heap} {locs : List Loc} {ls : Array Slot} {cells slots : Nat} (hf9 : cells + 1 ≤ 601024 ∧ slots + 6 ≤ 7293000) (hP : va_P D vwCl (laW T o g q n d x qm x y) H) (hD : va_D A (laW T o g q n d x qm x y)) (hS : va_S A s.heap H locs) (hl : lv_has ls 8 (laL j q qm o b)) (kk : laK p l e s m below meth c b A D T q qm o n Q j (cells + 1) (slots + 6)) : W p l e room_1 s m #[Value.ref b] below meth c H locs cells slots Q (F0 m 181 ls []) := by
  obtain ⟨hx, hb, hml, hT, hown, hK, hN, hZ, hA, hXs, hbl, hbA, hlt, hL⟩ := C0
  have hl : lv_has ls 8 [(4, .int (iI (j))), (1, .ref (q 0)), (2, .ref (qm 20)), (3, .ref (o)), (0, .ref (b))] := hl
  have hv1 := sv_in xs (j + 1)
  have hv2 := sv_in xs (j + 2)
  have hv3 := sv_in xs (j + 3)
  have hv4 := sv_in xs (j + 4)
  refine lv_aload_n hx hb d_LA_law_181 rfl (lv_at hl 1 rfl) ?_
  refine lv_aload_n hx hb d_LA_law_182 rfl (lv_at hl 4 rfl) ?_
  refine lv_iload hx hb d_LA_law_183 (lv_at hl 0 rfl) ?_
  refine cx_iconst hx hb d_LA_law_185 ?_
  refine cx_iadd hx hb d_LA_law_186 ?_
  refine cx_sld hx hb hXs hbl hbA hS (by omega) (by omega) d_LA_law_187 ?_
  refine lv_aload_n hx hb d_LA_law_188 rfl (lv_at hl 4 rfl) ?_
  refine lv_iload hx hb d_LA_law_189 (lv_at hl 0 rfl) ?_
  refine cx_iconst hx hb d_LA_law_191 ?_
  refine cx_iadd hx hb d_LA_law_192 ?_
  refine cx_sld hx hb hXs hbl hbA hS (by omega) (by omega) d_LA_law_193 ?_
  refine lv_i2l (v := (iI (sv xs (j + 2))).toInt64) hx hb d_LA_law_194 rfl ?_
  refine cx_bipush hx hb d_LA_law_195 rfl ?_
  refine lv_lshl (v := ((iI (sv xs (j + 2))).toInt64) <<< ((iI (32)).toInt64 &&& 63)) hx hb d_LA_law_197 rfl ?_
  refine lv_aload_n hx hb d_LA_law_198 rfl (lv_at hl 4 rfl) ?_
  refine lv_iload hx hb d_LA_law_199 (lv_at hl 0 rfl) ?_
  refine cx_iconst hx hb d_LA_law_201 ?_
  refine cx_iadd hx hb d_LA_law_202 ?_
  refine cx_sld hx hb hXs hbl hbA hS (by omega) (by omega) d_LA_law_203 ?_
  refine lv_i2l (v := (iI (sv xs (j + 3))).toInt64) hx hb d_LA_law_204 rfl ?_
  refine lv_ldc2 (v := 4294967295) hx hb hown (hT _ tw_919) d_LA_law_205 ?_
  refine lv_land hx hb d_LA_law_208 ?_
  refine lv_lor hx hb d_LA_law_209 ?_
  refine lv_aload_n hx hb d_LA_law_210 rfl (lv_at hl 4 rfl) ?_
  refine lv_iload hx hb d_LA_law_211 (lv_at hl 0 rfl) ?_
  refine cx_iconst hx hb d_LA_law_213 ?_
  refine cx_iadd hx hb d_LA_law_214 ?_
  refine cx_sld hx hb hXs hbl hbA hS (by omega) (by omega) d_LA_law_215 ?_
  refine lv_aload_n hx hb d_LA_law_216 rfl (lv_at hl 3 rfl) ?_
  refine cx_cH (ws2 := fun (u9 : SX × (Int → Int) × (Nat → Int64)) => laW T o u9.2.2 q n u9.2.1 u9.1 qm x y) (cx_rH (rest := []) (As := [.ref (q 0), .int (iI (sv xs (j + 1))), .long ((((iI (sv xs (j + 2))).toInt64) <<< ((iI (32)).toInt64 &&& 63)) ||| (((iI (sv xs (j + 3))).toInt64) &&& ((4294967295 : Int64)))), .int (iI (sv xs (j + 4))), .ref (o)]) hx hb hml hown hT hK hN hP hD hS hA hZ hl.1 tw_199 kh_LA_put (c_LA_put l D T H.size q n hn d x hX hlt o g (sv xs (j + 1)) (by omega) ((((iI (sv xs (j + 2))).toInt64) <<< ((iI (32)).toInt64 &&& 63)) ||| (((iI (sv xs (j + 3))).toInt64) &&& ((4294967295 : Int64)))) (sv xs (j + 4))) ⟨by decide, by decide⟩ ⟨rfl, rfl⟩ [0, 1, 2, 3, 4, 5, 6, 7, 8, 9, 10, 11, 12] (by decide) rfl rfl rfl (Nat.le_of_ble_eq_true rfl) ⟨by show _ ≤ (601024 : Nat); omega, by show _ ≤ (7293000 : Nat); omega⟩ d_LA_law_217) hP hD hS hA [0, 1, 2, 3, 4, 5, 6, 7, 8, 9, 10, 11, 12] [13, 14, 15, 16, 17, 18, 19, 20, 21, 22] [10, 11, 12, 13, 14, 15, 16, 17, 18, 19, 20, 21, 22, 0, 1, 2, 3, 4, 5, 6, 7, 8, 9] rfl (wr := moX T qm n x y) rfl (by decide) (by decide) (fun _ => rfl) (by decide) (fun r9 u9 H locs hq9 hP hD hS => ?_)
  rcases hq9 with ⟨rfl, hc9, hu9, hE9, hg9⟩ | ⟨rfl, hc9, hu9⟩
  · rw [hu9] at hP hD hE9
    have hP : va_P D vwCl (laW T o u9.2.2 q n u9.2.1 (putX (sv xs (j + 1)) ((((iI (sv xs (j + 2))).toInt64) <<< ((iI (32)).toInt64 &&& 63)) ||| (((iI (sv xs (j + 3))).toInt64) &&& ((4294967295 : Int64)))) (sv xs (j + 4)) x) qm x y) H := hP
    have hD : va_D A (laW T o u9.2.2 q n u9.2.1 (putX (sv xs (j + 1)) ((((iI (sv xs (j + 2))).toInt64) <<< ((iI (32)).toInt64 &&& 63)) ||| (((iI (sv xs (j + 3))).toInt64) &&& ((4294967295 : Int64)))) (sv xs (j + 4)) x) qm x y) := hD
    refine lv_istore (lv' := [(5, .int (iI (0))), (4, .int (iI (j))), (1, .ref (q 0)), (2, .ref (qm 20)), (3, .ref (o)), (0, .ref (b))]) hx hb d_LA_law_220 hl (by decide) rfl (fun ls hl => ?_)
    refine lv_aload_n hx hb d_LA_law_222 rfl (lv_at hl 3 rfl) ?_
    refine lv_aload_n hx hb d_LA_law_223 rfl (lv_at hl 5 rfl) ?_
    refine lv_iload hx hb d_LA_law_224 (lv_at hl 1 rfl) ?_
    refine cx_iconst hx hb d_LA_law_226 ?_
    refine cx_iadd hx hb d_LA_law_227 ?_
    refine cx_sld hx hb hXs hbl hbA hS (by omega) (by omega) d_LA_law_228 ?_
    refine lv_aload_n hx hb d_LA_law_229 rfl (lv_at hl 5 rfl) ?_
    refine lv_iload hx hb d_LA_law_230 (lv_at hl 1 rfl) ?_
    refine cx_iconst hx hb d_LA_law_232 ?_
    refine cx_iadd hx hb d_LA_law_233 ?_
    refine cx_sld hx hb hXs hbl hbA hS (by omega) (by omega) d_LA_law_234 ?_
    refine lv_i2l (v := (iI (sv xs (j + 2))).toInt64) hx hb d_LA_law_235 rfl ?_
    refine cx_bipush hx hb d_LA_law_236 rfl ?_
    refine lv_lshl (v := ((iI (sv xs (j + 2))).toInt64) <<< ((iI (32)).toInt64 &&& 63)) hx hb d_LA_law_238 rfl ?_
    refine lv_aload_n hx hb d_LA_law_239 rfl (lv_at hl 5 rfl) ?_
    refine lv_iload hx hb d_LA_law_240 (lv_at hl 1 rfl) ?_
    refine cx_iconst hx hb d_LA_law_242 ?_
    refine cx_iadd hx hb d_LA_law_243 ?_
    refine cx_sld hx hb hXs hbl hbA hS (by omega) (by omega) d_LA_law_244 ?_
    refine lv_i2l (v := (iI (sv xs (j + 3))).toInt64) hx hb d_LA_law_245 rfl ?_
    refine lv_ldc2 (v := 4294967295) hx hb hown (hT _ tw_919) d_LA_law_246 ?_
    refine lv_land hx hb d_LA_law_249 ?_
    refine lv_lor hx hb d_LA_law_250 ?_
    refine lv_aload_n hx hb d_LA_law_251 rfl (lv_at hl 5 rfl) ?_
    refine lv_iload hx hb d_LA_law_252 (lv_at hl 1 rfl) ?_
    refine cx_iconst hx hb d_LA_law_254 ?_
    refine cx_iadd hx hb d_LA_law_255 ?_
    refine cx_sld hx hb hXs hbl hbA hS (by omega) (by omega) d_LA_law_256 ?_
    refine cx_cI (ws2 := fun (u : SX × SX) => laW T o u9.2.2 q n u9.2.1 (putX (sv xs (j + 1)) ((((iI (sv xs (j + 2))).toInt64) <<< ((iI (32)).toInt64 &&& 63)) ||| (((iI (sv xs (j + 3))).toInt64) &&& ((4294967295 : Int64)))) (sv xs (j + 4)) x) qm u.1 u.2) (cx_rV (q0 := 13) (ci := 5) (rest := []) (As := [.int (iI (sv xs (j + 1))), .long ((((iI (sv xs (j + 2))).toInt64) <<< ((iI (32)).toInt64 &&& 63)) ||| (((iI (sv xs (j + 3))).toInt64) &&& ((4294967295 : Int64)))), .int (iI (sv xs (j + 4)))]) hx hb hml hown hT hK hN hP hD hl.1 tw_738 k_MO_put (c_MO_put l D T H.size qm n hn x y hX (sv xs (j + 1)) (by omega) ((((iI (sv xs (j + 2))).toInt64) <<< ((iI (32)).toInt64 &&& 63)) ||| (((iI (sv xs (j + 3))).toInt64) &&& ((4294967295 : Int64)))) (sv xs (j + 4))) ⟨by decide, by decide⟩ ⟨rfl, rfl⟩ [13, 14, 15, 16, 17, 18, 19, 20, 21, 22] (by decide) rfl rfl rfl rfl rfl (Nat.le_of_ble_eq_true rfl) ⟨by show _ ≤ (601024 : Nat); omega, by show _ ≤ (7293000 : Nat); omega⟩ d_LA_law_257) hP hD hS hA [13, 14, 15, 16, 17, 18, 19, 20, 21, 22] [0, 1, 2, 3, 4, 5, 6, 7, 8, 9, 10, 11, 12] [0, 1, 2, 3, 4, 5, 6, 7, 8, 9, 10, 11, 12, 13, 14, 15, 16, 17, 18, 19, 20, 21, 22] rfl (wr := (o, .inl (T 3, 1, .inr (.inl u9.2.2))) :: cmX T q n u9.2.1 (putX (sv xs (j + 1)) ((((iI (sv xs (j + 2))).toInt64) <<< ((iI (32)).toInt64 &&& 63)) ||| (((iI (sv xs (j + 3))).toInt64) &&& ((4294967295 : Int64)))) (sv xs (j + 4)) x)) rfl (by decide) (by decide) (fun _ => rfl) (by decide) (fun r u_ H locs hq257 hP hD hS => ?_)
    obtain ⟨hr2, hu2, hE2⟩ := hq257
    simp only [if_neg hc9] at hr2 hu2
    subst hr2
    subst hu2
    have hP : va_P D vwCl (laW T o u9.2.2 q n u9.2.1 (putX (sv xs (j + 1)) ((((iI (sv xs (j + 2))).toInt64) <<< ((iI (32)).toInt64 &&& 63)) ||| (((iI (sv xs (j + 3))).toInt64) &&& ((4294967295 : Int64)))) (sv xs (j + 4)) x) qm (putX (sv xs (j + 1)) ((((iI (sv xs (j + 2))).toInt64) <<< ((iI (32)).toInt64 &&& 63)) ||| (((iI (sv xs (j + 3))).toInt64) &&& ((4294967295 : Int64)))) (sv xs (j + 4)) x) (up y 31 (cst 0))) H := hP
    have hD : va_D A (laW T o u9.2.2 q n u9.2.1 (putX (sv xs (j + 1)) ((((iI (sv xs (j + 2))).toInt64) <<< ((iI (32)).toInt64 &&& 63)) ||| (((iI (sv xs (j + 3))).toInt64) &&& ((4294967295 : Int64)))) (sv xs (j + 4)) x) qm (putX (sv xs (j + 1)) ((((iI (sv xs (j + 2))).toInt64) <<< ((iI (32)).toInt64 &&& 63)) ||| (((iI (sv xs (j + 3))).toInt64) &&& ((4294967295 : Int64)))) (sv xs (j + 4)) x) (up y 31 (cst 0))) := hD
    refine lv_istore (lv' := [(6, .int (iI (pcn ((((iI (sv xs (j + 2))).toInt64) <<< ((iI (32)).toInt64 &&& 63)) ||| (((iI (sv xs (j + 3))).toInt64) &&& ((4294967295 : Int64)))) 9 0))), (5, .int (iI (0))), (4, .int (iI (j))), (1, .ref (q 0)), (2, .ref (qm 20)), (3, .ref (o)), (0, .ref (b))]) hx hb d_LA_law_260 hl (by decide) rfl (fun ls hl => ?_)
    refine lv_aload_n hx hb d_LA_law_262 rfl (lv_at hl 4 rfl) ?_
    refine cx_cI (ws2 := fun (_ : Unit) => laW T o u9.2.2 q n u9.2.1 (putX (sv xs (j + 1)) ((((iI (sv xs (j + 2))).toInt64) <<< ((iI (32)).toInt64 &&& 63)) ||| (((iI (sv xs (j + 3))).toInt64) &&& ((4294967295 : Int64)))) (sv xs (j + 4)) x) qm (putX (sv xs (j + 1)) ((((iI (sv xs (j + 2))).toInt64) <<< ((iI (32)).toInt64 &&& 63)) ||| (((iI (sv xs (j + 3))).toInt64) &&& ((4294967295 : Int64)))) (sv xs (j + 4)) x) (up y 31 (cst 0))) (cx_rV (q0 := 13) (ci := 5) (rest := []) (As := []) hx hb hml hown hT hK hN hP hD hl.1 tw_723 k_MO_thrown (c_MO_thrown l D T H.size qm n hn (putX (sv xs (j + 1)) ((((iI (sv xs (j + 2))).toInt64) <<< ((iI (32)).toInt64 &&& 63)) ||| (((iI (sv xs (j + 3))).toInt64) &&& ((4294967295 : Int64)))) (sv xs (j + 4)) x) (up y 31 (cst 0)) hE9 ) ⟨by decide, by decide⟩ ⟨rfl, rfl⟩ [13, 14, 15, 16, 17, 18, 19, 20, 21, 22] (by decide) rfl rfl rfl rfl rfl (Nat.le_of_ble_eq_true rfl) ⟨by show _ ≤ (601024 : Nat); omega, by show _ ≤ (7293000 : Nat); omega⟩ d_LA_law_263) hP hD hS hA [13, 14, 15, 16, 17, 18, 19, 20, 21, 22] [0, 1, 2, 3, 4, 5, 6, 7, 8, 9, 10, 11, 12] [0, 1, 2, 3, 4, 5, 6, 7, 8, 9, 10, 11, 12, 13, 14, 15, 16, 17, 18, 19, 20, 21, 22] rfl (wr := (o, .inl (T 3, 1, .inr (.inl u9.2.2))) :: cmX T q n u9.2.1 (putX (sv xs (j + 1)) ((((iI (sv xs (j + 2))).toInt64) <<< ((iI (32)).toInt64 &&& 63)) ||| (((iI (sv xs (j + 3))).toInt64) &&& ((4294967295 : Int64)))) (sv xs (j + 4)) x)) rfl (by decide) (by decide) (fun _ => rfl) (by decide) (fun r u_ H locs hq263 hP hD hS => ?_)
    subst hq263
    refine cx_eq (y := iI 0) (rfl) ?_
    refine lv_iload hx hb d_LA_law_266 (lv_at hl 1 rfl) ?_
    refine lv_icmp_eq (tgt := 273) hx hb d_LA_law_268 rfl (fun _ => ?_) (fun h0 => absurd rfl h0)
    refine lv_iload hx hb d_LA_law_273 (lv_at hl 1 rfl) ?_
    refine cx_if_ne (tgt := 290) hx hb d_LA_law_275 rfl (by omega) (fun h0 => absurd h0 (by decide)) (fun _ => ?_)
    refine lv_aload_n hx hb d_LA_law_278 rfl (lv_at hl 5 rfl) ?_
    refine cx_iconst hx hb d_LA_law_279 ?_
    refine cx_lald hx hb hK hP 0 rfl d_LA_law_280 ?_
    refine lv_iload hx hb d_LA_law_281 (lv_at hl 0 rfl) ?_
    refine lv_i2l (v := (iI (pcn ((((iI (sv xs (j + 2))).toInt64) <<< ((iI (32)).toInt64 &&& 63)) ||| (((iI (sv xs (j + 3))).toInt64) &&& ((4294967295 : Int64)))) 9 0)).toInt64) hx hb d_LA_law_283 rfl ?_
    refine cx_lcmpE hx hb hg9 d_LA_law_284 ?_
    refine cx_if_eq (tgt := 290) hx hb d_LA_law_285 rfl (by omega) (fun _ => ?_) (fun h0 => absurd h0 (by decide))
    refine lv_goto (tgt := 815) hx hb d_LA_law_290 rfl ?_
    exact kk (putX (sv xs (j + 1)) ((((iI (sv xs (j + 2))).toInt64) <<< ((iI (32)).toInt64 &&& 63)) ||| (((iI (sv xs (j + 3))).toInt64) &&& ((4294967295 : Int64)))) (sv xs (j + 4)) x) (up y 31 (cst 0)) u9.2.1 u9.2.2 _ _ _ hE9 hP hD hS (lv_sub hl [2, 3, 4, 5, 6] rfl)
  · rw [hu9] at hP hD
    have hP : va_P D vwCl (laW T o u9.2.2 q n u9.2.1 x qm x y) H := hP
    have hD : va_D A (laW T o u9.2.2 q n u9.2.1 x qm x y) := hD
    refine lv_istore (lv' := [(5, .int (iI (1))), (4, .int (iI (j))), (1, .ref (q 0)), (2, .ref (qm 20)), (3, .ref (o)), (0, .ref (b))]) hx hb d_LA_law_220 hl (by decide) rfl (fun ls hl => ?_)
    refine lv_aload_n hx hb d_LA_law_222 rfl (lv_at hl 3 rfl) ?_
    refine lv_aload_n hx hb d_LA_law_223 rfl (lv_at hl 5 rfl) ?_
    refine lv_iload hx hb d_LA_law_224 (lv_at hl 1 rfl) ?_
    refine cx_iconst hx hb d_LA_law_226 ?_
    refine cx_iadd hx hb d_LA_law_227 ?_
    refine cx_sld hx hb hXs hbl hbA hS (by omega) (by omega) d_LA_law_228 ?_
    refine lv_aload_n hx hb d_LA_law_229 rfl (lv_at hl 5 rfl) ?_
    refine lv_iload hx hb d_LA_law_230 (lv_at hl 1 rfl) ?_
    refine cx_iconst hx hb d_LA_law_232 ?_
    refine cx_iadd hx hb d_LA_law_233 ?_
    refine cx_sld hx hb hXs hbl hbA hS (by omega) (by omega) d_LA_law_234 ?_
    refine lv_i2l (v := (iI (sv xs (j + 2))).toInt64) hx hb d_LA_law_235 rfl ?_
    refine cx_bipush hx hb d_LA_law_236 rfl ?_
    refine lv_lshl (v := ((iI (sv xs (j + 2))).toInt64) <<< ((iI (32)).toInt64 &&& 63)) hx hb d_LA_law_238 rfl ?_
    refine lv_aload_n hx hb d_LA_law_239 rfl (lv_at hl 5 rfl) ?_
    refine lv_iload hx hb d_LA_law_240 (lv_at hl 1 rfl) ?_
    refine cx_iconst hx hb d_LA_law_242 ?_
    refine cx_iadd hx hb d_LA_law_243 ?_
    refine cx_sld hx hb hXs hbl hbA hS (by omega) (by omega) d_LA_law_244 ?_
    refine lv_i2l (v := (iI (sv xs (j + 3))).toInt64) hx hb d_LA_law_245 rfl ?_
    refine lv_ldc2 (v := 4294967295) hx hb hown (hT _ tw_919) d_LA_law_246 ?_
    refine lv_land hx hb d_LA_law_249 ?_
    refine lv_lor hx hb d_LA_law_250 ?_
    refine lv_aload_n hx hb d_LA_law_251 rfl (lv_at hl 5 rfl) ?_
    refine lv_iload hx hb d_LA_law_252 (lv_at hl 1 rfl) ?_
    refine cx_iconst hx hb d_LA_law_254 ?_
    refine cx_iadd hx hb d_LA_law_255 ?_
    refine cx_sld hx hb hXs hbl hbA hS (by omega) (by omega) d_LA_law_256 ?_
    refine cx_cI (ws2 := fun (u : SX × SX) => laW T o u9.2.2 q n u9.2.1 x qm u.1 u.2) (cx_rV (q0 := 13) (ci := 5) (rest := []) (As := [.int (iI (sv xs (j + 1))), .long ((((iI (sv xs (j + 2))).toInt64) <<< ((iI (32)).toInt64 &&& 63)) ||| (((iI (sv xs (j + 3))).toInt64) &&& ((4294967295 : Int64)))), .int (iI (sv xs (j + 4)))]) hx hb hml hown hT hK hN hP hD hl.1 tw_738 k_MO_put (c_MO_put l D T H.size qm n hn x y hX (sv xs (j + 1)) (by omega) ((((iI (sv xs (j + 2))).toInt64) <<< ((iI (32)).toInt64 &&& 63)) ||| (((iI (sv xs (j + 3))).toInt64) &&& ((4294967295 : Int64)))) (sv xs (j + 4))) ⟨by decide, by decide⟩ ⟨rfl, rfl⟩ [13, 14, 15, 16, 17, 18, 19, 20, 21, 22] (by decide) rfl rfl rfl rfl rfl (Nat.le_of_ble_eq_true rfl) ⟨by show _ ≤ (601024 : Nat); omega, by show _ ≤ (7293000 : Nat); omega⟩ d_LA_law_257) hP hD hS hA [13, 14, 15, 16, 17, 18, 19, 20, 21, 22] [0, 1, 2, 3, 4, 5, 6, 7, 8, 9, 10, 11, 12] [0, 1, 2, 3, 4, 5, 6, 7, 8, 9, 10, 11, 12, 13, 14, 15, 16, 17, 18, 19, 20, 21, 22] rfl (wr := (o, .inl (T 3, 1, .inr (.inl u9.2.2))) :: cmX T q n u9.2.1 x) rfl (by decide) (by decide) (fun _ => rfl) (by decide) (fun r u_ H locs hq257 hP hD hS => ?_)
    obtain ⟨hr2, hu2, hE2⟩ := hq257
    simp only [if_pos hc9] at hr2 hu2
    subst hr2
    subst hu2
    have hP : va_P D vwCl (laW T o u9.2.2 q n u9.2.1 x qm x (up y 31 (cst 1))) H := hP
    have hD : va_D A (laW T o u9.2.2 q n u9.2.1 x qm x (up y 31 (cst 1))) := hD
    refine lv_istore (lv' := [(6, .int (iI (0))), (5, .int (iI (1))), (4, .int (iI (j))), (1, .ref (q 0)), (2, .ref (qm 20)), (3, .ref (o)), (0, .ref (b))]) hx hb d_LA_law_260 hl (by decide) rfl (fun ls hl => ?_)
    refine lv_aload_n hx hb d_LA_law_262 rfl (lv_at hl 4 rfl) ?_
    refine cx_cI (ws2 := fun (_ : Unit) => laW T o u9.2.2 q n u9.2.1 x qm x (up y 31 (cst 1))) (cx_rV (q0 := 13) (ci := 5) (rest := []) (As := []) hx hb hml hown hT hK hN hP hD hl.1 tw_723 k_MO_thrown (c_MO_thrown l D T H.size qm n hn x (up y 31 (cst 1)) hX ) ⟨by decide, by decide⟩ ⟨rfl, rfl⟩ [13, 14, 15, 16, 17, 18, 19, 20, 21, 22] (by decide) rfl rfl rfl rfl rfl (Nat.le_of_ble_eq_true rfl) ⟨by show _ ≤ (601024 : Nat); omega, by show _ ≤ (7293000 : Nat); omega⟩ d_LA_law_263) hP hD hS hA [13, 14, 15, 16, 17, 18, 19, 20, 21, 22] [0, 1, 2, 3, 4, 5, 6, 7, 8, 9, 10, 11, 12] [0, 1, 2, 3, 4, 5, 6, 7, 8, 9, 10, 11, 12, 13, 14, 15, 16, 17, 18, 19, 20, 21, 22] rfl (wr := (o, .inl (T 3, 1, .inr (.inl u9.2.2))) :: cmX T q n u9.2.1 x) rfl (by decide) (by decide) (fun _ => rfl) (by decide) (fun r u_ H locs hq263 hP hD hS => ?_)
    subst hq263
    refine cx_eq (y := iI 1) (rfl) ?_
    refine lv_iload hx hb d_LA_law_266 (lv_at hl 1 rfl) ?_
    refine lv_icmp_eq (tgt := 273) hx hb d_LA_law_268 rfl (fun _ => ?_) (fun h0 => absurd rfl h0)
    refine lv_iload hx hb d_LA_law_273 (lv_at hl 1 rfl) ?_
    refine cx_if_ne (tgt := 290) hx hb d_LA_law_275 rfl (by omega) (fun _ => ?_) (fun h0 => absurd h0 (by decide))
    refine lv_goto (tgt := 815) hx hb d_LA_law_290 rfl ?_
    exact kk x (up y 31 (cst 1)) u9.2.1 u9.2.2 _ _ _ hX hP hD hS (lv_sub hl [2, 3, 4, 5, 6] rfl)

set_option maxHeartbeats 4000000 in
set_option maxRecDepth 100000 in
theorem law_2 (C0 : laC p l e s m meth c b L xs A D T n) (hn : 400 ≤ n ∧ n ≤ 2000) (j : Int) (hj : 1 ≤ j ∧ j + 5 ≤ L) (x y : SX) (d : Int → Int) (g : Nat → Int64) (hX : okX x) {H : Heap} {locs : List Loc} {ls : Array Slot} {cells slots : Nat} (hf9 : cells + 1 ≤ 601024 ∧ slots + 6 ≤ 7293000) (hP : va_P D vwCl (laW T o g q n d x qm x y) H) (hD : va_D A (laW T o g q n d x qm x y)) (hS : va_S A s.heap H locs) (hl : lv_has ls 8 (laL j q qm o b)) (kk : laK p l e s m below meth c b A D T q qm o n Q j (cells + 1) (slots + 6)) : W p l e room_1 s m #[Value.ref b] below meth c H locs cells slots Q (F0 m 293 ls []) := by
  obtain ⟨hx, hb, hml, hT, hown, hK, hN, hZ, hA, hXs, hbl, hbA, hlt, hL⟩ := C0
  have hl : lv_has ls 8 [(4, .int (iI (j))), (1, .ref (q 0)), (2, .ref (qm 20)), (3, .ref (o)), (0, .ref (b))] := hl
  have hv1 := sv_in xs (j + 1)
  have hv2 := sv_in xs (j + 2)
  have hv3 := sv_in xs (j + 3)
  have hv4 := sv_in xs (j + 4)
  refine lv_aload_n hx hb d_LA_law_293 rfl (lv_at hl 1 rfl) ?_
  refine lv_aload_n hx hb d_LA_law_294 rfl (lv_at hl 4 rfl) ?_
  refine lv_iload hx hb d_LA_law_295 (lv_at hl 0 rfl) ?_
  refine cx_iconst hx hb d_LA_law_297 ?_
  refine cx_iadd hx hb d_LA_law_298 ?_
  refine cx_sld hx hb hXs hbl hbA hS (by omega) (by omega) d_LA_law_299 ?_
  refine lv_aload_n hx hb d_LA_law_300 rfl (lv_at hl 4 rfl) ?_
  refine lv_iload hx hb d_LA_law_301 (lv_at hl 0 rfl) ?_
  refine cx_iconst hx hb d_LA_law_303 ?_
  refine cx_iadd hx hb d_LA_law_304 ?_
  refine cx_sld hx hb hXs hbl hbA hS (by omega) (by omega) d_LA_law_305 ?_
  refine cx_cI (ws2 := fun (u : SX) => laW T o g q n d u qm x y) (cx_rV (q0 := 1) (ci := 4) (rest := []) (As := [.int (iI (sv xs (j + 1))), .int (iI (sv xs (j + 2)))]) hx hb hml hown hT hK hN hP hD hl.1 tw_158 k_CM_column (c_CM_column l D T H.size q n hn d x hX (sv xs (j + 1)) (by omega) (sv xs (j + 2)) (by omega)) ⟨by decide, by decide⟩ ⟨rfl, rfl⟩ [1, 2, 3, 4, 5, 6, 7, 8, 9, 10, 11, 12] (by decide) rfl rfl rfl rfl rfl (Nat.le_of_ble_eq_true rfl) ⟨by show _ ≤ (601024 : Nat); omega, by show _ ≤ (7293000 : Nat); omega⟩ d_LA_law_306) hP hD hS hA [1, 2, 3, 4, 5, 6, 7, 8, 9, 10, 11, 12] [0, 13, 14, 15, 16, 17, 18, 19, 20, 21, 22] [0, 11, 12, 13, 14, 15, 16, 17, 18, 19, 20, 21, 22, 1, 2, 3, 4, 5, 6, 7, 8, 9, 10] rfl (wr := (o, .inl (T 3, 1, .inr (.inl g))) :: moX T qm n x y) rfl (by decide) (by decide) (fun _ => rfl) (by decide) (fun r u_ H locs hq306 hP hD hS => ?_)
  obtain ⟨hr1, hu1, hE1⟩ := hq306
  subst hr1
  subst hu1
  have hP : va_P D vwCl (laW T o g q n d ((colS (sv xs (j + 1)) (sv xs (j + 2)) x).2) qm x y) H := hP
  have hD : va_D A (laW T o g q n d ((colS (sv xs (j + 1)) (sv xs (j + 2)) x).2) qm x y) := hD
  refine lv_aload_n hx hb d_LA_law_309 rfl (lv_at hl 2 rfl) ?_
  refine lv_aload_n hx hb d_LA_law_310 rfl (lv_at hl 4 rfl) ?_
  refine lv_iload hx hb d_LA_law_311 (lv_at hl 0 rfl) ?_
  refine cx_iconst hx hb d_LA_law_313 ?_
  refine cx_iadd hx hb d_LA_law_314 ?_
  refine cx_sld hx hb hXs hbl hbA hS (by omega) (by omega) d_LA_law_315 ?_
  refine lv_aload_n hx hb d_LA_law_316 rfl (lv_at hl 4 rfl) ?_
  refine lv_iload hx hb d_LA_law_317 (lv_at hl 0 rfl) ?_
  refine cx_iconst hx hb d_LA_law_319 ?_
  refine cx_iadd hx hb d_LA_law_320 ?_
  refine cx_sld hx hb hXs hbl hbA hS (by omega) (by omega) d_LA_law_321 ?_
  refine cx_cI (ws2 := fun (u : SX × SX) => laW T o g q n d ((colS (sv xs (j + 1)) (sv xs (j + 2)) x).2) qm u.1 u.2) (cx_rV (q0 := 13) (ci := 5) (rest := [.int (iI ((colS (sv xs (j + 1)) (sv xs (j + 2)) x).1))]) (As := [.int (iI (sv xs (j + 1))), .int (iI (sv xs (j + 2)))]) hx hb hml hown hT hK hN hP hD hl.1 tw_745 k_MO_column (c_MO_column l D T H.size qm n hn x y hX (sv xs (j + 1)) (by omega) (sv xs (j + 2)) (by omega)) ⟨by decide, by decide⟩ ⟨rfl, rfl⟩ [13, 14, 15, 16, 17, 18, 19, 20, 21, 22] (by decide) rfl rfl rfl rfl rfl (Nat.le_of_ble_eq_true rfl) ⟨by show _ ≤ (601024 : Nat); omega, by show _ ≤ (7293000 : Nat); omega⟩ d_LA_law_322) hP hD hS hA [13, 14, 15, 16, 17, 18, 19, 20, 21, 22] [0, 1, 2, 3, 4, 5, 6, 7, 8, 9, 10, 11, 12] [0, 1, 2, 3, 4, 5, 6, 7, 8, 9, 10, 11, 12, 13, 14, 15, 16, 17, 18, 19, 20, 21, 22] rfl (wr := (o, .inl (T 3, 1, .inr (.inl g))) :: cmX T q n d ((colS (sv xs (j + 1)) (sv xs (j + 2)) x).2)) rfl (by decide) (by decide) (fun _ => rfl) (by decide) (fun r u_ H locs hq322 hP hD hS => ?_)
  obtain ⟨⟨hr2, hu2, hE2⟩, hy2⟩ := hq322
  subst hr2
  rw [hu2] at hP hD
  have hP : va_P D vwCl (laW T o g q n d ((colS (sv xs (j + 1)) (sv xs (j + 2)) x).2) qm ((colS (sv xs (j + 1)) (sv xs (j + 2)) x).2) u_.2) H := hP
  have hD : va_D A (laW T o g q n d ((colS (sv xs (j + 1)) (sv xs (j + 2)) x).2) qm ((colS (sv xs (j + 1)) (sv xs (j + 2)) x).2) u_.2) := hD
  refine lv_icmp_eq (tgt := 815) hx hb d_LA_law_325 rfl (fun _ => ?_) (fun h0 => absurd rfl h0)
  exact W.widen (k := cells + 1) (n := slots + 6) (by omega) (by omega) (kk ((colS (sv xs (j + 1)) (sv xs (j + 2)) x).2) u_.2 d g _ _ _ hE1 hP hD hS (lv_sub hl [0, 1, 2, 3, 4] rfl))

set_option maxHeartbeats 4000000 in
set_option maxRecDepth 100000 in
theorem law_3 (C0 : laC p l e s m meth c b L xs A D T n) (hn : 400 ≤ n ∧ n ≤ 2000) (j : Int) (hj : 1 ≤ j ∧ j + 5 ≤ L) (x y : SX) (d : Int → Int) (g : Nat → Int64) (hX : okX x) {H : Heap} {locs : List Loc} {ls : Array Slot} {cells slots : Nat} (hf9 : cells + 1 ≤ 601024 ∧ slots + 6 ≤ 7293000) (hP : va_P D vwCl (laW T o g q n d x qm x y) H) (hD : va_D A (laW T o g q n d x qm x y)) (hS : va_S A s.heap H locs) (hl : lv_has ls 8 (laL j q qm o b)) (kk : laK p l e s m below meth c b A D T q qm o n Q j (cells + 1) (slots + 6)) : W p l e room_1 s m #[Value.ref b] below meth c H locs cells slots Q (F0 m 330 ls []) := by
  obtain ⟨hx, hb, hml, hT, hown, hK, hN, hZ, hA, hXs, hbl, hbA, hlt, hL⟩ := C0
  have hl : lv_has ls 8 [(4, .int (iI (j))), (1, .ref (q 0)), (2, .ref (qm 20)), (3, .ref (o)), (0, .ref (b))] := hl
  have hv1 := sv_in xs (j + 1)
  have hv2 := sv_in xs (j + 2)
  have hv3 := sv_in xs (j + 3)
  have hv4 := sv_in xs (j + 4)
  refine lv_aload_n hx hb d_LA_law_330 rfl (lv_at hl 1 rfl) ?_
  refine lv_aload_n hx hb d_LA_law_331 rfl (lv_at hl 3 rfl) ?_
  refine cx_cH (ws2 := fun (u9 : SX × (Int → Int) × (Nat → Int64)) => laW T o u9.2.2 q n u9.2.1 u9.1 qm x y) (cx_rH (rest := []) (As := [.ref (q 0), .ref (o)]) hx hb hml hown hT hK hN hP hD hS hA hZ hl.1 tw_278 kh_LA_card (c_LA_card l D T H.size q n hn d x hX hlt o g ) ⟨by decide, by decide⟩ ⟨rfl, rfl⟩ [0, 1, 2, 3, 4, 5, 6, 7, 8, 9, 10, 11, 12] (by decide) rfl rfl rfl (Nat.le_of_ble_eq_true rfl) ⟨by show _ ≤ (601024 : Nat); omega, by show _ ≤ (7293000 : Nat); omega⟩ d_LA_law_332) hP hD hS hA [0, 1, 2, 3, 4, 5, 6, 7, 8, 9, 10, 11, 12] [13, 14, 15, 16, 17, 18, 19, 20, 21, 22] [10, 11, 12, 13, 14, 15, 16, 17, 18, 19, 20, 21, 22, 0, 1, 2, 3, 4, 5, 6, 7, 8, 9] rfl (wr := moX T qm n x y) rfl (by decide) (by decide) (fun _ => rfl) (by decide) (fun r9 u9 H locs hq9 hP hD hS => ?_)
  rcases hq9 with ⟨rfl, hc9, hu9, hE9, hg9⟩ | ⟨rfl, hc9, hu9⟩
  · rw [hu9] at hP hD hE9
    have hP : va_P D vwCl (laW T o u9.2.2 q n u9.2.1 (up x 18 (cst (x 18 0 + 1))) qm x y) H := hP
    have hD : va_D A (laW T o u9.2.2 q n u9.2.1 (up x 18 (cst (x 18 0 + 1))) qm x y) := hD
    refine lv_istore (lv' := [(5, .int (iI (0))), (4, .int (iI (j))), (1, .ref (q 0)), (2, .ref (qm 20)), (3, .ref (o)), (0, .ref (b))]) hx hb d_LA_law_335 hl (by decide) rfl (fun ls hl => ?_)
    refine lv_aload_n hx hb d_LA_law_337 rfl (lv_at hl 3 rfl) ?_
    refine cx_cI (ws2 := fun (u : SX × SX) => laW T o u9.2.2 q n u9.2.1 (up x 18 (cst (x 18 0 + 1))) qm u.1 u.2) (cx_rV (q0 := 13) (ci := 5) (rest := []) (As := []) hx hb hml hown hT hK hN hP hD hl.1 tw_749 k_MO_card (c_MO_card l D T H.size qm n hn x y hX ) ⟨by decide, by decide⟩ ⟨rfl, rfl⟩ [13, 14, 15, 16, 17, 18, 19, 20, 21, 22] (by decide) rfl rfl rfl rfl rfl (Nat.le_of_ble_eq_true rfl) ⟨by show _ ≤ (601024 : Nat); omega, by show _ ≤ (7293000 : Nat); omega⟩ d_LA_law_338) hP hD hS hA [13, 14, 15, 16, 17, 18, 19, 20, 21, 22] [0, 1, 2, 3, 4, 5, 6, 7, 8, 9, 10, 11, 12] [0, 1, 2, 3, 4, 5, 6, 7, 8, 9, 10, 11, 12, 13, 14, 15, 16, 17, 18, 19, 20, 21, 22] rfl (wr := (o, .inl (T 3, 1, .inr (.inl u9.2.2))) :: cmX T q n u9.2.1 (up x 18 (cst (x 18 0 + 1)))) rfl (by decide) (by decide) (fun _ => rfl) (by decide) (fun r u_ H locs hq338 hP hD hS => ?_)
    obtain ⟨⟨hr2, hu2⟩, hE2⟩ := hq338
    have hR9 := hX.2.1
    unfold okR at hR9
    simp only [if_neg (show ¬ x 18 0 = 20 by omega)] at hr2 hu2
    subst hr2
    subst hu2
    have hP : va_P D vwCl (laW T o u9.2.2 q n u9.2.1 (up x 18 (cst (x 18 0 + 1))) qm (up x 18 (cst (x 18 0 + 1))) (up y 31 (cst 0))) H := hP
    have hD : va_D A (laW T o u9.2.2 q n u9.2.1 (up x 18 (cst (x 18 0 + 1))) qm (up x 18 (cst (x 18 0 + 1))) (up y 31 (cst 0))) := hD
    refine lv_istore (lv' := [(6, .int (iI (x 18 0 + 1 - x 17 0))), (5, .int (iI (0))), (4, .int (iI (j))), (1, .ref (q 0)), (2, .ref (qm 20)), (3, .ref (o)), (0, .ref (b))]) hx hb d_LA_law_341 hl (by decide) rfl (fun ls hl => ?_)
    refine lv_aload_n hx hb d_LA_law_343 rfl (lv_at hl 4 rfl) ?_
    refine cx_cI (ws2 := fun (_ : Unit) => laW T o u9.2.2 q n u9.2.1 (up x 18 (cst (x 18 0 + 1))) qm (up x 18 (cst (x 18 0 + 1))) (up y 31 (cst 0))) (cx_rV (q0 := 13) (ci := 5) (rest := []) (As := []) hx hb hml hown hT hK hN hP hD hl.1 tw_723 k_MO_thrown (c_MO_thrown l D T H.size qm n hn (up x 18 (cst (x 18 0 + 1))) (up y 31 (cst 0)) hE9 ) ⟨by decide, by decide⟩ ⟨rfl, rfl⟩ [13, 14, 15, 16, 17, 18, 19, 20, 21, 22] (by decide) rfl rfl rfl rfl rfl (Nat.le_of_ble_eq_true rfl) ⟨by show _ ≤ (601024 : Nat); omega, by show _ ≤ (7293000 : Nat); omega⟩ d_LA_law_344) hP hD hS hA [13, 14, 15, 16, 17, 18, 19, 20, 21, 22] [0, 1, 2, 3, 4, 5, 6, 7, 8, 9, 10, 11, 12] [0, 1, 2, 3, 4, 5, 6, 7, 8, 9, 10, 11, 12, 13, 14, 15, 16, 17, 18, 19, 20, 21, 22] rfl (wr := (o, .inl (T 3, 1, .inr (.inl u9.2.2))) :: cmX T q n u9.2.1 (up x 18 (cst (x 18 0 + 1)))) rfl (by decide) (by decide) (fun _ => rfl) (by decide) (fun r u_ H locs hq344 hP hD hS => ?_)
    subst hq344
    refine cx_eq (y := iI 0) (rfl) ?_
    refine lv_iload hx hb d_LA_law_347 (lv_at hl 1 rfl) ?_
    refine lv_icmp_eq (tgt := 354) hx hb d_LA_law_349 rfl (fun _ => ?_) (fun h0 => absurd rfl h0)
    refine lv_iload hx hb d_LA_law_354 (lv_at hl 1 rfl) ?_
    refine cx_if_ne (tgt := 371) hx hb d_LA_law_356 rfl (by omega) (fun h0 => absurd h0 (by decide)) (fun _ => ?_)
    refine lv_aload_n hx hb d_LA_law_359 rfl (lv_at hl 5 rfl) ?_
    refine cx_iconst hx hb d_LA_law_360 ?_
    refine cx_lald hx hb hK hP 0 rfl d_LA_law_361 ?_
    refine lv_iload hx hb d_LA_law_362 (lv_at hl 0 rfl) ?_
    refine lv_i2l (v := (iI (x 18 0 + 1 - x 17 0)).toInt64) hx hb d_LA_law_364 rfl ?_
    refine cx_lcmpE hx hb hg9 d_LA_law_365 ?_
    refine cx_if_eq (tgt := 371) hx hb d_LA_law_366 rfl (by omega) (fun _ => ?_) (fun h0 => absurd h0 (by decide))
    refine lv_goto (tgt := 815) hx hb d_LA_law_371 rfl ?_
    exact kk (up x 18 (cst (x 18 0 + 1))) (up y 31 (cst 0)) u9.2.1 u9.2.2 _ _ _ hE9 hP hD hS (lv_sub hl [2, 3, 4, 5, 6] rfl)
  · rw [hu9] at hP hD
    have hP : va_P D vwCl (laW T o u9.2.2 q n u9.2.1 x qm x y) H := hP
    have hD : va_D A (laW T o u9.2.2 q n u9.2.1 x qm x y) := hD
    refine lv_istore (lv' := [(5, .int (iI (1))), (4, .int (iI (j))), (1, .ref (q 0)), (2, .ref (qm 20)), (3, .ref (o)), (0, .ref (b))]) hx hb d_LA_law_335 hl (by decide) rfl (fun ls hl => ?_)
    refine lv_aload_n hx hb d_LA_law_337 rfl (lv_at hl 3 rfl) ?_
    refine cx_cI (ws2 := fun (u : SX × SX) => laW T o u9.2.2 q n u9.2.1 x qm u.1 u.2) (cx_rV (q0 := 13) (ci := 5) (rest := []) (As := []) hx hb hml hown hT hK hN hP hD hl.1 tw_749 k_MO_card (c_MO_card l D T H.size qm n hn x y hX ) ⟨by decide, by decide⟩ ⟨rfl, rfl⟩ [13, 14, 15, 16, 17, 18, 19, 20, 21, 22] (by decide) rfl rfl rfl rfl rfl (Nat.le_of_ble_eq_true rfl) ⟨by show _ ≤ (601024 : Nat); omega, by show _ ≤ (7293000 : Nat); omega⟩ d_LA_law_338) hP hD hS hA [13, 14, 15, 16, 17, 18, 19, 20, 21, 22] [0, 1, 2, 3, 4, 5, 6, 7, 8, 9, 10, 11, 12] [0, 1, 2, 3, 4, 5, 6, 7, 8, 9, 10, 11, 12, 13, 14, 15, 16, 17, 18, 19, 20, 21, 22] rfl (wr := (o, .inl (T 3, 1, .inr (.inl u9.2.2))) :: cmX T q n u9.2.1 x) rfl (by decide) (by decide) (fun _ => rfl) (by decide) (fun r u_ H locs hq338 hP hD hS => ?_)
    obtain ⟨⟨hr2, hu2⟩, hE2⟩ := hq338
    have hR9 := hX.2.1
    unfold okR at hR9
    simp only [if_pos (show x 18 0 = 20 by omega)] at hr2 hu2
    subst hr2
    subst hu2
    have hP : va_P D vwCl (laW T o u9.2.2 q n u9.2.1 x qm x (up y 31 (cst 1))) H := hP
    have hD : va_D A (laW T o u9.2.2 q n u9.2.1 x qm x (up y 31 (cst 1))) := hD
    refine lv_istore (lv' := [(6, .int (iI (0))), (5, .int (iI (1))), (4, .int (iI (j))), (1, .ref (q 0)), (2, .ref (qm 20)), (3, .ref (o)), (0, .ref (b))]) hx hb d_LA_law_341 hl (by decide) rfl (fun ls hl => ?_)
    refine lv_aload_n hx hb d_LA_law_343 rfl (lv_at hl 4 rfl) ?_
    refine cx_cI (ws2 := fun (_ : Unit) => laW T o u9.2.2 q n u9.2.1 x qm x (up y 31 (cst 1))) (cx_rV (q0 := 13) (ci := 5) (rest := []) (As := []) hx hb hml hown hT hK hN hP hD hl.1 tw_723 k_MO_thrown (c_MO_thrown l D T H.size qm n hn x (up y 31 (cst 1)) hX ) ⟨by decide, by decide⟩ ⟨rfl, rfl⟩ [13, 14, 15, 16, 17, 18, 19, 20, 21, 22] (by decide) rfl rfl rfl rfl rfl (Nat.le_of_ble_eq_true rfl) ⟨by show _ ≤ (601024 : Nat); omega, by show _ ≤ (7293000 : Nat); omega⟩ d_LA_law_344) hP hD hS hA [13, 14, 15, 16, 17, 18, 19, 20, 21, 22] [0, 1, 2, 3, 4, 5, 6, 7, 8, 9, 10, 11, 12] [0, 1, 2, 3, 4, 5, 6, 7, 8, 9, 10, 11, 12, 13, 14, 15, 16, 17, 18, 19, 20, 21, 22] rfl (wr := (o, .inl (T 3, 1, .inr (.inl u9.2.2))) :: cmX T q n u9.2.1 x) rfl (by decide) (by decide) (fun _ => rfl) (by decide) (fun r u_ H locs hq344 hP hD hS => ?_)
    subst hq344
    refine cx_eq (y := iI 1) (rfl) ?_
    refine lv_iload hx hb d_LA_law_347 (lv_at hl 1 rfl) ?_
    refine lv_icmp_eq (tgt := 354) hx hb d_LA_law_349 rfl (fun _ => ?_) (fun h0 => absurd rfl h0)
    refine lv_iload hx hb d_LA_law_354 (lv_at hl 1 rfl) ?_
    refine cx_if_ne (tgt := 371) hx hb d_LA_law_356 rfl (by omega) (fun _ => ?_) (fun h0 => absurd h0 (by decide))
    refine lv_goto (tgt := 815) hx hb d_LA_law_371 rfl ?_
    exact kk x (up y 31 (cst 1)) u9.2.1 u9.2.2 _ _ _ hX hP hD hS (lv_sub hl [2, 3, 4, 5, 6] rfl)

set_option maxHeartbeats 4000000 in
set_option maxRecDepth 100000 in
theorem law_4 (C0 : laC p l e s m meth c b L xs A D T n) (hn : 400 ≤ n ∧ n ≤ 2000) (j : Int) (hj : 1 ≤ j ∧ j + 5 ≤ L) (x y : SX) (d : Int → Int) (g : Nat → Int64) (hX : okX x) {H : Heap} {locs : List Loc} {ls : Array Slot} {cells slots : Nat} (hf9 : cells + 1 ≤ 601024 ∧ slots + 6 ≤ 7293000) (hP : va_P D vwCl (laW T o g q n d x qm x y) H) (hD : va_D A (laW T o g q n d x qm x y)) (hS : va_S A s.heap H locs) (hl : lv_has ls 8 (laL j q qm o b)) (kk : laK p l e s m below meth c b A D T q qm o n Q j (cells + 1) (slots + 6)) : W p l e room_1 s m #[Value.ref b] below meth c H locs cells slots Q (F0 m 374 ls []) := by
  obtain ⟨hx, hb, hml, hT, hown, hK, hN, hZ, hA, hXs, hbl, hbA, hlt, hL⟩ := C0
  have hl : lv_has ls 8 [(4, .int (iI (j))), (1, .ref (q 0)), (2, .ref (qm 20)), (3, .ref (o)), (0, .ref (b))] := hl
  have hv1 := sv_in xs (j + 1)
  have hv2 := sv_in xs (j + 2)
  have hv3 := sv_in xs (j + 3)
  have hv4 := sv_in xs (j + 4)
  refine lv_aload_n hx hb d_LA_law_374 rfl (lv_at hl 1 rfl) ?_
  refine lv_aload_n hx hb d_LA_law_375 rfl (lv_at hl 4 rfl) ?_
  refine lv_iload hx hb d_LA_law_376 (lv_at hl 0 rfl) ?_
  refine cx_iconst hx hb d_LA_law_378 ?_
  refine cx_iadd hx hb d_LA_law_379 ?_
  refine cx_sld hx hb hXs hbl hbA hS (by omega) (by omega) d_LA_law_380 ?_
  refine cx_cI (ws2 := fun (u : SX) => laW T o g q n d u qm x y) (cx_rV (q0 := 1) (ci := 4) (rest := []) (As := [.int (iI (sv xs (j + 1)))]) hx hb hml hown hT hK hN hP hD hl.1 tw_166 k_CM_start (c_CM_start l D T H.size q n hn d x hX (sv xs (j + 1)) (by omega)) ⟨by decide, by decide⟩ ⟨rfl, rfl⟩ [1, 2, 3, 4, 5, 6, 7, 8, 9, 10, 11, 12] (by decide) rfl rfl rfl rfl rfl (Nat.le_of_ble_eq_true rfl) ⟨by show _ ≤ (601024 : Nat); omega, by show _ ≤ (7293000 : Nat); omega⟩ d_LA_law_381) hP hD hS hA [1, 2, 3, 4, 5, 6, 7, 8, 9, 10, 11, 12] [0, 13, 14, 15, 16, 17, 18, 19, 20, 21, 22] [0, 11, 12, 13, 14, 15, 16, 17, 18, 19, 20, 21, 22, 1, 2, 3, 4, 5, 6, 7, 8, 9, 10] rfl (wr := (o, .inl (T 3, 1, .inr (.inl g))) :: moX T qm n x y) rfl (by decide) (by decide) (fun _ => rfl) (by decide) (fun r u_ H locs hq381 hP hD hS => ?_)
  obtain ⟨hr1, hu1, hE1⟩ := hq381
  subst hr1
  subst hu1
  have hP : va_P D vwCl (laW T o g q n d ((sttS n (sv xs (j + 1)) x).2) qm x y) H := hP
  have hD : va_D A (laW T o g q n d ((sttS n (sv xs (j + 1)) x).2) qm x y) := hD
  refine lv_aload_n hx hb d_LA_law_384 rfl (lv_at hl 2 rfl) ?_
  refine lv_aload_n hx hb d_LA_law_385 rfl (lv_at hl 4 rfl) ?_
  refine lv_iload hx hb d_LA_law_386 (lv_at hl 0 rfl) ?_
  refine cx_iconst hx hb d_LA_law_388 ?_
  refine cx_iadd hx hb d_LA_law_389 ?_
  refine cx_sld hx hb hXs hbl hbA hS (by omega) (by omega) d_LA_law_390 ?_
  refine cx_cI (ws2 := fun (u : SX × SX) => laW T o g q n d ((sttS n (sv xs (j + 1)) x).2) qm u.1 u.2) (cx_rV (q0 := 13) (ci := 5) (rest := [.int (iI ((sttS n (sv xs (j + 1)) x).1))]) (As := [.int (iI (sv xs (j + 1)))]) hx hb hml hown hT hK hN hP hD hl.1 tw_753 k_MO_start (c_MO_start l D T H.size qm n hn x y hX (sv xs (j + 1)) (by omega)) ⟨by decide, by decide⟩ ⟨rfl, rfl⟩ [13, 14, 15, 16, 17, 18, 19, 20, 21, 22] (by decide) rfl rfl rfl rfl rfl (Nat.le_of_ble_eq_true rfl) ⟨by show _ ≤ (601024 : Nat); omega, by show _ ≤ (7293000 : Nat); omega⟩ d_LA_law_391) hP hD hS hA [13, 14, 15, 16, 17, 18, 19, 20, 21, 22] [0, 1, 2, 3, 4, 5, 6, 7, 8, 9, 10, 11, 12] [0, 1, 2, 3, 4, 5, 6, 7, 8, 9, 10, 11, 12, 13, 14, 15, 16, 17, 18, 19, 20, 21, 22] rfl (wr := (o, .inl (T 3, 1, .inr (.inl g))) :: cmX T q n d ((sttS n (sv xs (j + 1)) x).2)) rfl (by decide) (by decide) (fun _ => rfl) (by decide) (fun r u_ H locs hq391 hP hD hS => ?_)
  obtain ⟨⟨hr2, hu2, hE2⟩, hy2⟩ := hq391
  subst hr2
  rw [hu2] at hP hD
  have hP : va_P D vwCl (laW T o g q n d ((sttS n (sv xs (j + 1)) x).2) qm ((sttS n (sv xs (j + 1)) x).2) u_.2) H := hP
  have hD : va_D A (laW T o g q n d ((sttS n (sv xs (j + 1)) x).2) qm ((sttS n (sv xs (j + 1)) x).2) u_.2) := hD
  refine lv_icmp_eq (tgt := 815) hx hb d_LA_law_394 rfl (fun _ => ?_) (fun h0 => absurd rfl h0)
  exact W.widen (k := cells + 1) (n := slots + 6) (by omega) (by omega) (kk ((sttS n (sv xs (j + 1)) x).2) u_.2 d g _ _ _ hE1 hP hD hS (lv_sub hl [0, 1, 2, 3, 4] rfl))

set_option maxHeartbeats 4000000 in
set_option maxRecDepth 100000 in
theorem law_5 (C0 : laC p l e s m meth c b L xs A D T n) (hn : 400 ≤ n ∧ n ≤ 2000) (j : Int) (hj : 1 ≤ j ∧ j + 5 ≤ L) (x y : SX) (d : Int → Int) (g : Nat → Int64) (hX : okX x) {H : Heap} {locs : List Loc} {ls : Array Slot} {cells slots : Nat} (hf9 : cells + 1 ≤ 601024 ∧ slots + 6 ≤ 7293000) (hP : va_P D vwCl (laW T o g q n d x qm x y) H) (hD : va_D A (laW T o g q n d x qm x y)) (hS : va_S A s.heap H locs) (hl : lv_has ls 8 (laL j q qm o b)) (kk : laK p l e s m below meth c b A D T q qm o n Q j (cells + 1) (slots + 6)) : W p l e room_1 s m #[Value.ref b] below meth c H locs cells slots Q (F0 m 399 ls []) := by
  obtain ⟨hx, hb, hml, hT, hown, hK, hN, hZ, hA, hXs, hbl, hbA, hlt, hL⟩ := C0
  have hl : lv_has ls 8 [(4, .int (iI (j))), (1, .ref (q 0)), (2, .ref (qm 20)), (3, .ref (o)), (0, .ref (b))] := hl
  have hv1 := sv_in xs (j + 1)
  have hv2 := sv_in xs (j + 2)
  have hv3 := sv_in xs (j + 3)
  have hv4 := sv_in xs (j + 4)
  refine lv_aload_n hx hb d_LA_law_399 rfl (lv_at hl 1 rfl) ?_
  refine lv_aload_n hx hb d_LA_law_400 rfl (lv_at hl 4 rfl) ?_
  refine lv_iload hx hb d_LA_law_401 (lv_at hl 0 rfl) ?_
  refine cx_iconst hx hb d_LA_law_403 ?_
  refine cx_iadd hx hb d_LA_law_404 ?_
  refine cx_sld hx hb hXs hbl hbA hS (by omega) (by omega) d_LA_law_405 ?_
  refine lv_aload_n hx hb d_LA_law_406 rfl (lv_at hl 3 rfl) ?_
  refine cx_cH (ws2 := fun (u9 : SX × (Int → Int) × (Nat → Int64)) => laW T o u9.2.2 q n u9.2.1 u9.1 qm x y) (cx_rH (rest := []) (As := [.ref (q 0), .int (iI (sv xs (j + 1))), .ref (o)]) hx hb hml hown hT hK hN hP hD hS hA hZ hl.1 tw_309 kh_LA_run (c_LA_run l D T H.size q n hn d x hX hlt o g (sv xs (j + 1)) (by omega)) ⟨by decide, by decide⟩ ⟨rfl, rfl⟩ [0, 1, 2, 3, 4, 5, 6, 7, 8, 9, 10, 11, 12] (by decide) rfl rfl rfl (Nat.le_of_ble_eq_true rfl) ⟨by show _ ≤ (601024 : Nat); omega, by show _ ≤ (7293000 : Nat); omega⟩ d_LA_law_407) hP hD hS hA [0, 1, 2, 3, 4, 5, 6, 7, 8, 9, 10, 11, 12] [13, 14, 15, 16, 17, 18, 19, 20, 21, 22] [10, 11, 12, 13, 14, 15, 16, 17, 18, 19, 20, 21, 22, 0, 1, 2, 3, 4, 5, 6, 7, 8, 9] rfl (wr := moX T qm n x y) rfl (by decide) (by decide) (fun _ => rfl) (by decide) (fun r9 u9 H locs hq9 hP hD hS => ?_)
  rcases hq9 with ⟨rfl, hc9, hu9, hE9, hg9⟩ | ⟨rfl, hc9, hu9⟩
  · rw [hu9] at hP hD hE9
    have hP : va_P D vwCl (laW T o u9.2.2 q n u9.2.1 ((runS n (sv xs (j + 1)) x).2) qm x y) H := hP
    have hD : va_D A (laW T o u9.2.2 q n u9.2.1 ((runS n (sv xs (j + 1)) x).2) qm x y) := hD
    refine lv_istore (lv' := [(5, .int (iI (0))), (4, .int (iI (j))), (1, .ref (q 0)), (2, .ref (qm 20)), (3, .ref (o)), (0, .ref (b))]) hx hb d_LA_law_410 hl (by decide) rfl (fun ls hl => ?_)
    refine lv_aload_n hx hb d_LA_law_412 rfl (lv_at hl 3 rfl) ?_
    refine lv_aload_n hx hb d_LA_law_413 rfl (lv_at hl 5 rfl) ?_
    refine lv_iload hx hb d_LA_law_414 (lv_at hl 1 rfl) ?_
    refine cx_iconst hx hb d_LA_law_416 ?_
    refine cx_iadd hx hb d_LA_law_417 ?_
    refine cx_sld hx hb hXs hbl hbA hS (by omega) (by omega) d_LA_law_418 ?_
    refine cx_cI (ws2 := fun (u : SX × SX) => laW T o u9.2.2 q n u9.2.1 ((runS n (sv xs (j + 1)) x).2) qm u.1 u.2) (cx_rV (q0 := 13) (ci := 5) (rest := []) (As := [.int (iI (sv xs (j + 1)))]) hx hb hml hown hT hK hN hP hD hl.1 tw_757 k_MO_run (c_MO_run l D T H.size qm n hn x y hX (sv xs (j + 1)) (by omega)) ⟨by decide, by decide⟩ ⟨rfl, rfl⟩ [13, 14, 15, 16, 17, 18, 19, 20, 21, 22] (by decide) rfl rfl rfl rfl rfl (Nat.le_of_ble_eq_true rfl) ⟨by show _ ≤ (601024 : Nat); omega, by show _ ≤ (7293000 : Nat); omega⟩ d_LA_law_419) hP hD hS hA [13, 14, 15, 16, 17, 18, 19, 20, 21, 22] [0, 1, 2, 3, 4, 5, 6, 7, 8, 9, 10, 11, 12] [0, 1, 2, 3, 4, 5, 6, 7, 8, 9, 10, 11, 12, 13, 14, 15, 16, 17, 18, 19, 20, 21, 22] rfl (wr := (o, .inl (T 3, 1, .inr (.inl u9.2.2))) :: cmX T q n u9.2.1 ((runS n (sv xs (j + 1)) x).2)) rfl (by decide) (by decide) (fun _ => rfl) (by decide) (fun r u_ H locs hq419 hP hD hS => ?_)
    obtain ⟨um9, ym9⟩ := u_
    obtain ⟨⟨hr2, hu2, hE2⟩, hy2⟩ := hq419
    subst hr2
    have hu2 : um9 = (runS n (sv xs (j + 1)) x).2 := hu2
    have hy2 : ym9 31 0 = (if 1 ≤ (sv xs (j + 1)) ∧ (sv xs (j + 1)) ≤ 20000 then 0 else 1) := hy2
    rw [hu2] at hP hD
    rw [if_pos hc9] at hy2
    have hP : va_P D vwCl (laW T o u9.2.2 q n u9.2.1 ((runS n (sv xs (j + 1)) x).2) qm ((runS n (sv xs (j + 1)) x).2) ym9) H := hP
    have hD : va_D A (laW T o u9.2.2 q n u9.2.1 ((runS n (sv xs (j + 1)) x).2) qm ((runS n (sv xs (j + 1)) x).2) ym9) := hD
    refine lv_istore (lv' := [(6, .int (iI ((runS n (sv xs (j + 1)) x).1))), (5, .int (iI (0))), (4, .int (iI (j))), (1, .ref (q 0)), (2, .ref (qm 20)), (3, .ref (o)), (0, .ref (b))]) hx hb d_LA_law_422 hl (by decide) rfl (fun ls hl => ?_)
    refine lv_aload_n hx hb d_LA_law_424 rfl (lv_at hl 4 rfl) ?_
    refine cx_cI (ws2 := fun (_ : Unit) => laW T o u9.2.2 q n u9.2.1 ((runS n (sv xs (j + 1)) x).2) qm ((runS n (sv xs (j + 1)) x).2) ym9) (cx_rV (q0 := 13) (ci := 5) (rest := []) (As := []) hx hb hml hown hT hK hN hP hD hl.1 tw_723 k_MO_thrown (c_MO_thrown l D T H.size qm n hn ((runS n (sv xs (j + 1)) x).2) ym9 hE9 ) ⟨by decide, by decide⟩ ⟨rfl, rfl⟩ [13, 14, 15, 16, 17, 18, 19, 20, 21, 22] (by decide) rfl rfl rfl rfl rfl (Nat.le_of_ble_eq_true rfl) ⟨by show _ ≤ (601024 : Nat); omega, by show _ ≤ (7293000 : Nat); omega⟩ d_LA_law_425) hP hD hS hA [13, 14, 15, 16, 17, 18, 19, 20, 21, 22] [0, 1, 2, 3, 4, 5, 6, 7, 8, 9, 10, 11, 12] [0, 1, 2, 3, 4, 5, 6, 7, 8, 9, 10, 11, 12, 13, 14, 15, 16, 17, 18, 19, 20, 21, 22] rfl (wr := (o, .inl (T 3, 1, .inr (.inl u9.2.2))) :: cmX T q n u9.2.1 ((runS n (sv xs (j + 1)) x).2)) rfl (by decide) (by decide) (fun _ => rfl) (by decide) (fun r u_ H locs hq425 hP hD hS => ?_)
    subst hq425
    refine cx_eq (y := iI 0) (by rw [hy2]) ?_
    refine lv_iload hx hb d_LA_law_428 (lv_at hl 1 rfl) ?_
    refine lv_icmp_eq (tgt := 435) hx hb d_LA_law_430 rfl (fun _ => ?_) (fun h0 => absurd rfl h0)
    refine lv_iload hx hb d_LA_law_435 (lv_at hl 1 rfl) ?_
    refine cx_if_ne (tgt := 452) hx hb d_LA_law_437 rfl (by omega) (fun h0 => absurd h0 (by decide)) (fun _ => ?_)
    refine lv_aload_n hx hb d_LA_law_440 rfl (lv_at hl 5 rfl) ?_
    refine cx_iconst hx hb d_LA_law_441 ?_
    refine cx_lald hx hb hK hP 0 rfl d_LA_law_442 ?_
    refine lv_iload hx hb d_LA_law_443 (lv_at hl 0 rfl) ?_
    refine lv_i2l (v := (iI ((runS n (sv xs (j + 1)) x).1)).toInt64) hx hb d_LA_law_445 rfl ?_
    refine cx_lcmpE hx hb hg9 d_LA_law_446 ?_
    refine cx_if_eq (tgt := 452) hx hb d_LA_law_447 rfl (by omega) (fun _ => ?_) (fun h0 => absurd h0 (by decide))
    refine lv_goto (tgt := 815) hx hb d_LA_law_452 rfl ?_
    exact kk ((runS n (sv xs (j + 1)) x).2) ym9 u9.2.1 u9.2.2 _ _ _ hE9 hP hD hS (lv_sub hl [2, 3, 4, 5, 6] rfl)
  · rw [hu9] at hP hD
    have hP : va_P D vwCl (laW T o u9.2.2 q n u9.2.1 x qm x y) H := hP
    have hD : va_D A (laW T o u9.2.2 q n u9.2.1 x qm x y) := hD
    refine lv_istore (lv' := [(5, .int (iI (1))), (4, .int (iI (j))), (1, .ref (q 0)), (2, .ref (qm 20)), (3, .ref (o)), (0, .ref (b))]) hx hb d_LA_law_410 hl (by decide) rfl (fun ls hl => ?_)
    refine lv_aload_n hx hb d_LA_law_412 rfl (lv_at hl 3 rfl) ?_
    refine lv_aload_n hx hb d_LA_law_413 rfl (lv_at hl 5 rfl) ?_
    refine lv_iload hx hb d_LA_law_414 (lv_at hl 1 rfl) ?_
    refine cx_iconst hx hb d_LA_law_416 ?_
    refine cx_iadd hx hb d_LA_law_417 ?_
    refine cx_sld hx hb hXs hbl hbA hS (by omega) (by omega) d_LA_law_418 ?_
    refine cx_cI (ws2 := fun (u : SX × SX) => laW T o u9.2.2 q n u9.2.1 x qm u.1 u.2) (cx_rV (q0 := 13) (ci := 5) (rest := []) (As := [.int (iI (sv xs (j + 1)))]) hx hb hml hown hT hK hN hP hD hl.1 tw_757 k_MO_run (c_MO_run l D T H.size qm n hn x y hX (sv xs (j + 1)) (by omega)) ⟨by decide, by decide⟩ ⟨rfl, rfl⟩ [13, 14, 15, 16, 17, 18, 19, 20, 21, 22] (by decide) rfl rfl rfl rfl rfl (Nat.le_of_ble_eq_true rfl) ⟨by show _ ≤ (601024 : Nat); omega, by show _ ≤ (7293000 : Nat); omega⟩ d_LA_law_419) hP hD hS hA [13, 14, 15, 16, 17, 18, 19, 20, 21, 22] [0, 1, 2, 3, 4, 5, 6, 7, 8, 9, 10, 11, 12] [0, 1, 2, 3, 4, 5, 6, 7, 8, 9, 10, 11, 12, 13, 14, 15, 16, 17, 18, 19, 20, 21, 22] rfl (wr := (o, .inl (T 3, 1, .inr (.inl u9.2.2))) :: cmX T q n u9.2.1 x) rfl (by decide) (by decide) (fun _ => rfl) (by decide) (fun r u_ H locs hq419 hP hD hS => ?_)
    obtain ⟨um9, ym9⟩ := u_
    obtain ⟨⟨hr2, hu2, hE2⟩, hy2⟩ := hq419
    subst hr2
    have hu2 : um9 = (runS n (sv xs (j + 1)) x).2 := hu2
    have hy2 : ym9 31 0 = (if 1 ≤ (sv xs (j + 1)) ∧ (sv xs (j + 1)) ≤ 20000 then 0 else 1) := hy2
    rw [show (runS n (sv xs (j + 1)) x).2 = x by unfold runS; rw [if_neg hc9]] at hu2
    rw [hu2] at hP hD
    rw [if_neg hc9] at hy2
    have hP : va_P D vwCl (laW T o u9.2.2 q n u9.2.1 x qm x ym9) H := hP
    have hD : va_D A (laW T o u9.2.2 q n u9.2.1 x qm x ym9) := hD
    refine lv_istore (lv' := [(6, .int (iI ((runS n (sv xs (j + 1)) x).1))), (5, .int (iI (1))), (4, .int (iI (j))), (1, .ref (q 0)), (2, .ref (qm 20)), (3, .ref (o)), (0, .ref (b))]) hx hb d_LA_law_422 hl (by decide) rfl (fun ls hl => ?_)
    refine lv_aload_n hx hb d_LA_law_424 rfl (lv_at hl 4 rfl) ?_
    refine cx_cI (ws2 := fun (_ : Unit) => laW T o u9.2.2 q n u9.2.1 x qm x ym9) (cx_rV (q0 := 13) (ci := 5) (rest := []) (As := []) hx hb hml hown hT hK hN hP hD hl.1 tw_723 k_MO_thrown (c_MO_thrown l D T H.size qm n hn x ym9 hX ) ⟨by decide, by decide⟩ ⟨rfl, rfl⟩ [13, 14, 15, 16, 17, 18, 19, 20, 21, 22] (by decide) rfl rfl rfl rfl rfl (Nat.le_of_ble_eq_true rfl) ⟨by show _ ≤ (601024 : Nat); omega, by show _ ≤ (7293000 : Nat); omega⟩ d_LA_law_425) hP hD hS hA [13, 14, 15, 16, 17, 18, 19, 20, 21, 22] [0, 1, 2, 3, 4, 5, 6, 7, 8, 9, 10, 11, 12] [0, 1, 2, 3, 4, 5, 6, 7, 8, 9, 10, 11, 12, 13, 14, 15, 16, 17, 18, 19, 20, 21, 22] rfl (wr := (o, .inl (T 3, 1, .inr (.inl u9.2.2))) :: cmX T q n u9.2.1 x) rfl (by decide) (by decide) (fun _ => rfl) (by decide) (fun r u_ H locs hq425 hP hD hS => ?_)
    subst hq425
    refine cx_eq (y := iI 1) (by rw [hy2]) ?_
    refine lv_iload hx hb d_LA_law_428 (lv_at hl 1 rfl) ?_
    refine lv_icmp_eq (tgt := 435) hx hb d_LA_law_430 rfl (fun _ => ?_) (fun h0 => absurd rfl h0)
    refine lv_iload hx hb d_LA_law_435 (lv_at hl 1 rfl) ?_
    refine cx_if_ne (tgt := 452) hx hb d_LA_law_437 rfl (by omega) (fun _ => ?_) (fun h0 => absurd h0 (by decide))
    refine lv_goto (tgt := 815) hx hb d_LA_law_452 rfl ?_
    exact kk x ym9 u9.2.1 u9.2.2 _ _ _ hX hP hD hS (lv_sub hl [2, 3, 4, 5, 6] rfl)

set_option maxHeartbeats 4000000 in
set_option maxRecDepth 100000 in
theorem law_6 (C0 : laC p l e s m meth c b L xs A D T n) (hn : 400 ≤ n ∧ n ≤ 2000) (j : Int) (hj : 1 ≤ j ∧ j + 5 ≤ L) (x y : SX) (d : Int → Int) (g : Nat → Int64) (hX : okX x) {H : Heap} {locs : List Loc} {ls : Array Slot} {cells slots : Nat} (hf9 : cells + 1 ≤ 601024 ∧ slots + 6 ≤ 7293000) (hP : va_P D vwCl (laW T o g q n d x qm x y) H) (hD : va_D A (laW T o g q n d x qm x y)) (hS : va_S A s.heap H locs) (hl : lv_has ls 8 (laL j q qm o b)) (kk : laK p l e s m below meth c b A D T q qm o n Q j (cells + 1) (slots + 6)) : W p l e room_1 s m #[Value.ref b] below meth c H locs cells slots Q (F0 m 455 ls []) := by
  obtain ⟨hx, hb, hml, hT, hown, hK, hN, hZ, hA, hXs, hbl, hbA, hlt, hL⟩ := C0
  have hl : lv_has ls 8 [(4, .int (iI (j))), (1, .ref (q 0)), (2, .ref (qm 20)), (3, .ref (o)), (0, .ref (b))] := hl
  have hv1 := sv_in xs (j + 1)
  have hv2 := sv_in xs (j + 2)
  have hv3 := sv_in xs (j + 3)
  have hv4 := sv_in xs (j + 4)
  refine lv_aload_n hx hb d_LA_law_455 rfl (lv_at hl 1 rfl) ?_
  refine lv_aload_n hx hb d_LA_law_456 rfl (lv_at hl 4 rfl) ?_
  refine lv_iload hx hb d_LA_law_457 (lv_at hl 0 rfl) ?_
  refine cx_iconst hx hb d_LA_law_459 ?_
  refine cx_iadd hx hb d_LA_law_460 ?_
  refine cx_sld hx hb hXs hbl hbA hS (by omega) (by omega) d_LA_law_461 ?_
  refine lv_aload_n hx hb d_LA_law_462 rfl (lv_at hl 3 rfl) ?_
  refine cx_cH (ws2 := fun (u9 : SX × (Int → Int) × (Nat → Int64)) => laW T o u9.2.2 q n u9.2.1 u9.1 qm x y) (cx_rH (rest := []) (As := [.ref (q 0), .int (iI (sv xs (j + 1))), .ref (o)]) hx hb hml hown hT hK hN hP hD hS hA hZ hl.1 tw_552 kh_LA_at (c_LA_at l D T H.size q n hn d x hX hlt o g (sv xs (j + 1)) (by omega)) ⟨by decide, by decide⟩ ⟨rfl, rfl⟩ [0, 1, 2, 3, 4, 5, 6, 7, 8, 9, 10, 11, 12] (by decide) rfl rfl rfl (Nat.le_of_ble_eq_true rfl) ⟨by show _ ≤ (601024 : Nat); omega, by show _ ≤ (7293000 : Nat); omega⟩ d_LA_law_463) hP hD hS hA [0, 1, 2, 3, 4, 5, 6, 7, 8, 9, 10, 11, 12] [13, 14, 15, 16, 17, 18, 19, 20, 21, 22] [10, 11, 12, 13, 14, 15, 16, 17, 18, 19, 20, 21, 22, 0, 1, 2, 3, 4, 5, 6, 7, 8, 9] rfl (wr := moX T qm n x y) rfl (by decide) (by decide) (fun _ => rfl) (by decide) (fun r9 u9 H locs hq9 hP hD hS => ?_)
  rcases hq9 with ⟨rfl, hc9, hu9, hg9⟩ | ⟨rfl, hc9, hu9⟩
  · rw [hu9] at hP hD
    have hP : va_P D vwCl (laW T o u9.2.2 q n u9.2.1 x qm x y) H := hP
    have hD : va_D A (laW T o u9.2.2 q n u9.2.1 x qm x y) := hD
    refine lv_istore (lv' := [(5, .int (iI (0))), (4, .int (iI (j))), (1, .ref (q 0)), (2, .ref (qm 20)), (3, .ref (o)), (0, .ref (b))]) hx hb d_LA_law_466 hl (by decide) rfl (fun ls hl => ?_)
    refine lv_aload_n hx hb d_LA_law_468 rfl (lv_at hl 3 rfl) ?_
    refine lv_aload_n hx hb d_LA_law_469 rfl (lv_at hl 5 rfl) ?_
    refine lv_iload hx hb d_LA_law_470 (lv_at hl 1 rfl) ?_
    refine cx_iconst hx hb d_LA_law_472 ?_
    refine cx_iadd hx hb d_LA_law_473 ?_
    refine cx_sld hx hb hXs hbl hbA hS (by omega) (by omega) d_LA_law_474 ?_
    refine cx_cI (ws2 := fun (u : SX × SX) => laW T o u9.2.2 q n u9.2.1 x qm u.1 u.2) (cx_rV (q0 := 13) (ci := 5) (rest := []) (As := [.int (iI (sv xs (j + 1)))]) hx hb hml hown hT hK hN hP hD hl.1 tw_890 k_MO_at (c_MO_at l D T H.size qm n hn x y hX (sv xs (j + 1)) (by omega)) ⟨by decide, by decide⟩ ⟨rfl, rfl⟩ [13, 14, 15, 16, 17, 18, 19, 20, 21, 22] (by decide) rfl rfl rfl rfl rfl (Nat.le_of_ble_eq_true rfl) ⟨by show _ ≤ (601024 : Nat); omega, by show _ ≤ (7293000 : Nat); omega⟩ d_LA_law_475) hP hD hS hA [13, 14, 15, 16, 17, 18, 19, 20, 21, 22] [0, 1, 2, 3, 4, 5, 6, 7, 8, 9, 10, 11, 12] [0, 1, 2, 3, 4, 5, 6, 7, 8, 9, 10, 11, 12, 13, 14, 15, 16, 17, 18, 19, 20, 21, 22] rfl (wr := (o, .inl (T 3, 1, .inr (.inl u9.2.2))) :: cmX T q n u9.2.1 x) rfl (by decide) (by decide) (fun _ => rfl) (by decide) (fun r u_ H locs hq475 hP hD hS => ?_)
    obtain ⟨hr2, hu2⟩ := hq475
    simp only [if_pos hc9] at hr2 hu2
    subst hr2
    subst hu2
    have hP : va_P D vwCl (laW T o u9.2.2 q n u9.2.1 x qm x (up y 31 (cst 0))) H := hP
    have hD : va_D A (laW T o u9.2.2 q n u9.2.1 x qm x (up y 31 (cst 0))) := hD
    refine lv_istore (lv' := [(6, .int (iI (x 0 (sv xs (j + 1))))), (5, .int (iI (0))), (4, .int (iI (j))), (1, .ref (q 0)), (2, .ref (qm 20)), (3, .ref (o)), (0, .ref (b))]) hx hb d_LA_law_478 hl (by decide) rfl (fun ls hl => ?_)
    refine lv_aload_n hx hb d_LA_law_480 rfl (lv_at hl 4 rfl) ?_
    refine cx_cI (ws2 := fun (_ : Unit) => laW T o u9.2.2 q n u9.2.1 x qm x (up y 31 (cst 0))) (cx_rV (q0 := 13) (ci := 5) (rest := []) (As := []) hx hb hml hown hT hK hN hP hD hl.1 tw_723 k_MO_thrown (c_MO_thrown l D T H.size qm n hn x (up y 31 (cst 0)) hX ) ⟨by decide, by decide⟩ ⟨rfl, rfl⟩ [13, 14, 15, 16, 17, 18, 19, 20, 21, 22] (by decide) rfl rfl rfl rfl rfl (Nat.le_of_ble_eq_true rfl) ⟨by show _ ≤ (601024 : Nat); omega, by show _ ≤ (7293000 : Nat); omega⟩ d_LA_law_481) hP hD hS hA [13, 14, 15, 16, 17, 18, 19, 20, 21, 22] [0, 1, 2, 3, 4, 5, 6, 7, 8, 9, 10, 11, 12] [0, 1, 2, 3, 4, 5, 6, 7, 8, 9, 10, 11, 12, 13, 14, 15, 16, 17, 18, 19, 20, 21, 22] rfl (wr := (o, .inl (T 3, 1, .inr (.inl u9.2.2))) :: cmX T q n u9.2.1 x) rfl (by decide) (by decide) (fun _ => rfl) (by decide) (fun r u_ H locs hq481 hP hD hS => ?_)
    subst hq481
    refine cx_eq (y := iI 0) (rfl) ?_
    refine lv_iload hx hb d_LA_law_484 (lv_at hl 1 rfl) ?_
    refine lv_icmp_eq (tgt := 491) hx hb d_LA_law_486 rfl (fun _ => ?_) (fun h0 => absurd rfl h0)
    refine lv_iload hx hb d_LA_law_491 (lv_at hl 1 rfl) ?_
    refine cx_if_ne (tgt := 508) hx hb d_LA_law_493 rfl (by omega) (fun h0 => absurd h0 (by decide)) (fun _ => ?_)
    refine lv_aload_n hx hb d_LA_law_496 rfl (lv_at hl 5 rfl) ?_
    refine cx_iconst hx hb d_LA_law_497 ?_
    refine cx_lald hx hb hK hP 0 rfl d_LA_law_498 ?_
    refine lv_iload hx hb d_LA_law_499 (lv_at hl 0 rfl) ?_
    refine lv_i2l (v := (iI (x 0 (sv xs (j + 1)))).toInt64) hx hb d_LA_law_501 rfl ?_
    refine cx_lcmpE hx hb hg9 d_LA_law_502 ?_
    refine cx_if_eq (tgt := 508) hx hb d_LA_law_503 rfl (by omega) (fun _ => ?_) (fun h0 => absurd h0 (by decide))
    refine lv_goto (tgt := 815) hx hb d_LA_law_508 rfl ?_
    exact kk x (up y 31 (cst 0)) u9.2.1 u9.2.2 _ _ _ hX hP hD hS (lv_sub hl [2, 3, 4, 5, 6] rfl)
  · rw [hu9] at hP hD
    have hP : va_P D vwCl (laW T o u9.2.2 q n u9.2.1 x qm x y) H := hP
    have hD : va_D A (laW T o u9.2.2 q n u9.2.1 x qm x y) := hD
    refine lv_istore (lv' := [(5, .int (iI (1))), (4, .int (iI (j))), (1, .ref (q 0)), (2, .ref (qm 20)), (3, .ref (o)), (0, .ref (b))]) hx hb d_LA_law_466 hl (by decide) rfl (fun ls hl => ?_)
    refine lv_aload_n hx hb d_LA_law_468 rfl (lv_at hl 3 rfl) ?_
    refine lv_aload_n hx hb d_LA_law_469 rfl (lv_at hl 5 rfl) ?_
    refine lv_iload hx hb d_LA_law_470 (lv_at hl 1 rfl) ?_
    refine cx_iconst hx hb d_LA_law_472 ?_
    refine cx_iadd hx hb d_LA_law_473 ?_
    refine cx_sld hx hb hXs hbl hbA hS (by omega) (by omega) d_LA_law_474 ?_
    refine cx_cI (ws2 := fun (u : SX × SX) => laW T o u9.2.2 q n u9.2.1 x qm u.1 u.2) (cx_rV (q0 := 13) (ci := 5) (rest := []) (As := [.int (iI (sv xs (j + 1)))]) hx hb hml hown hT hK hN hP hD hl.1 tw_890 k_MO_at (c_MO_at l D T H.size qm n hn x y hX (sv xs (j + 1)) (by omega)) ⟨by decide, by decide⟩ ⟨rfl, rfl⟩ [13, 14, 15, 16, 17, 18, 19, 20, 21, 22] (by decide) rfl rfl rfl rfl rfl (Nat.le_of_ble_eq_true rfl) ⟨by show _ ≤ (601024 : Nat); omega, by show _ ≤ (7293000 : Nat); omega⟩ d_LA_law_475) hP hD hS hA [13, 14, 15, 16, 17, 18, 19, 20, 21, 22] [0, 1, 2, 3, 4, 5, 6, 7, 8, 9, 10, 11, 12] [0, 1, 2, 3, 4, 5, 6, 7, 8, 9, 10, 11, 12, 13, 14, 15, 16, 17, 18, 19, 20, 21, 22] rfl (wr := (o, .inl (T 3, 1, .inr (.inl u9.2.2))) :: cmX T q n u9.2.1 x) rfl (by decide) (by decide) (fun _ => rfl) (by decide) (fun r u_ H locs hq475 hP hD hS => ?_)
    obtain ⟨hr2, hu2⟩ := hq475
    simp only [if_neg hc9] at hr2 hu2
    subst hr2
    subst hu2
    have hP : va_P D vwCl (laW T o u9.2.2 q n u9.2.1 x qm x (up y 31 (cst 1))) H := hP
    have hD : va_D A (laW T o u9.2.2 q n u9.2.1 x qm x (up y 31 (cst 1))) := hD
    refine lv_istore (lv' := [(6, .int (iI (0))), (5, .int (iI (1))), (4, .int (iI (j))), (1, .ref (q 0)), (2, .ref (qm 20)), (3, .ref (o)), (0, .ref (b))]) hx hb d_LA_law_478 hl (by decide) rfl (fun ls hl => ?_)
    refine lv_aload_n hx hb d_LA_law_480 rfl (lv_at hl 4 rfl) ?_
    refine cx_cI (ws2 := fun (_ : Unit) => laW T o u9.2.2 q n u9.2.1 x qm x (up y 31 (cst 1))) (cx_rV (q0 := 13) (ci := 5) (rest := []) (As := []) hx hb hml hown hT hK hN hP hD hl.1 tw_723 k_MO_thrown (c_MO_thrown l D T H.size qm n hn x (up y 31 (cst 1)) hX ) ⟨by decide, by decide⟩ ⟨rfl, rfl⟩ [13, 14, 15, 16, 17, 18, 19, 20, 21, 22] (by decide) rfl rfl rfl rfl rfl (Nat.le_of_ble_eq_true rfl) ⟨by show _ ≤ (601024 : Nat); omega, by show _ ≤ (7293000 : Nat); omega⟩ d_LA_law_481) hP hD hS hA [13, 14, 15, 16, 17, 18, 19, 20, 21, 22] [0, 1, 2, 3, 4, 5, 6, 7, 8, 9, 10, 11, 12] [0, 1, 2, 3, 4, 5, 6, 7, 8, 9, 10, 11, 12, 13, 14, 15, 16, 17, 18, 19, 20, 21, 22] rfl (wr := (o, .inl (T 3, 1, .inr (.inl u9.2.2))) :: cmX T q n u9.2.1 x) rfl (by decide) (by decide) (fun _ => rfl) (by decide) (fun r u_ H locs hq481 hP hD hS => ?_)
    subst hq481
    refine cx_eq (y := iI 1) (rfl) ?_
    refine lv_iload hx hb d_LA_law_484 (lv_at hl 1 rfl) ?_
    refine lv_icmp_eq (tgt := 491) hx hb d_LA_law_486 rfl (fun _ => ?_) (fun h0 => absurd rfl h0)
    refine lv_iload hx hb d_LA_law_491 (lv_at hl 1 rfl) ?_
    refine cx_if_ne (tgt := 508) hx hb d_LA_law_493 rfl (by omega) (fun _ => ?_) (fun h0 => absurd h0 (by decide))
    refine lv_goto (tgt := 815) hx hb d_LA_law_508 rfl ?_
    exact kk x (up y 31 (cst 1)) u9.2.1 u9.2.2 _ _ _ hX hP hD hS (lv_sub hl [2, 3, 4, 5, 6] rfl)

set_option maxHeartbeats 4000000 in
set_option maxRecDepth 100000 in
theorem law_7 (C0 : laC p l e s m meth c b L xs A D T n) (hn : 400 ≤ n ∧ n ≤ 2000) (j : Int) (hj : 1 ≤ j ∧ j + 5 ≤ L) (x y : SX) (d : Int → Int) (g : Nat → Int64) (hX : okX x) {H : Heap} {locs : List Loc} {ls : Array Slot} {cells slots : Nat} (hf9 : cells + 1 ≤ 601024 ∧ slots + 6 ≤ 7293000) (hP : va_P D vwCl (laW T o g q n d x qm x y) H) (hD : va_D A (laW T o g q n d x qm x y)) (hS : va_S A s.heap H locs) (hl : lv_has ls 8 (laL j q qm o b)) (kk : laK p l e s m below meth c b A D T q qm o n Q j (cells + 1) (slots + 6)) : W p l e room_1 s m #[Value.ref b] below meth c H locs cells slots Q (F0 m 511 ls []) := by
  obtain ⟨hx, hb, hml, hT, hown, hK, hN, hZ, hA, hXs, hbl, hbA, hlt, hL⟩ := C0
  have hl : lv_has ls 8 [(4, .int (iI (j))), (1, .ref (q 0)), (2, .ref (qm 20)), (3, .ref (o)), (0, .ref (b))] := hl
  have hv1 := sv_in xs (j + 1)
  have hv2 := sv_in xs (j + 2)
  have hv3 := sv_in xs (j + 3)
  have hv4 := sv_in xs (j + 4)
  refine lv_aload_n hx hb d_LA_law_511 rfl (lv_at hl 1 rfl) ?_
  refine lv_aload_n hx hb d_LA_law_512 rfl (lv_at hl 4 rfl) ?_
  refine lv_iload hx hb d_LA_law_513 (lv_at hl 0 rfl) ?_
  refine cx_iconst hx hb d_LA_law_515 ?_
  refine cx_iadd hx hb d_LA_law_516 ?_
  refine cx_sld hx hb hXs hbl hbA hS (by omega) (by omega) d_LA_law_517 ?_
  refine lv_aload_n hx hb d_LA_law_518 rfl (lv_at hl 3 rfl) ?_
  refine cx_cH (ws2 := fun (u9 : SX × (Int → Int) × (Nat → Int64)) => laW T o u9.2.2 q n u9.2.1 u9.1 qm x y) (cx_rH (rest := []) (As := [.ref (q 0), .int (iI (sv xs (j + 1))), .ref (o)]) hx hb hml hown hT hK hN hP hD hS hA hZ hl.1 tw_576 kh_LA_isMarked (c_LA_isMarked l D T H.size q n hn d x hX hlt o g (sv xs (j + 1)) (by omega)) ⟨by decide, by decide⟩ ⟨rfl, rfl⟩ [0, 1, 2, 3, 4, 5, 6, 7, 8, 9, 10, 11, 12] (by decide) rfl rfl rfl (Nat.le_of_ble_eq_true rfl) ⟨by show _ ≤ (601024 : Nat); omega, by show _ ≤ (7293000 : Nat); omega⟩ d_LA_law_519) hP hD hS hA [0, 1, 2, 3, 4, 5, 6, 7, 8, 9, 10, 11, 12] [13, 14, 15, 16, 17, 18, 19, 20, 21, 22] [10, 11, 12, 13, 14, 15, 16, 17, 18, 19, 20, 21, 22, 0, 1, 2, 3, 4, 5, 6, 7, 8, 9] rfl (wr := moX T qm n x y) rfl (by decide) (by decide) (fun _ => rfl) (by decide) (fun r9 u9 H locs hq9 hP hD hS => ?_)
  rcases hq9 with ⟨rfl, hc9, hu9, hg9⟩ | ⟨rfl, hc9, hu9⟩
  · rw [hu9] at hP hD
    have hP : va_P D vwCl (laW T o u9.2.2 q n u9.2.1 x qm x y) H := hP
    have hD : va_D A (laW T o u9.2.2 q n u9.2.1 x qm x y) := hD
    refine lv_istore (lv' := [(5, .int (iI (0))), (4, .int (iI (j))), (1, .ref (q 0)), (2, .ref (qm 20)), (3, .ref (o)), (0, .ref (b))]) hx hb d_LA_law_522 hl (by decide) rfl (fun ls hl => ?_)
    refine lv_aload_n hx hb d_LA_law_524 rfl (lv_at hl 3 rfl) ?_
    refine lv_aload_n hx hb d_LA_law_525 rfl (lv_at hl 5 rfl) ?_
    refine lv_iload hx hb d_LA_law_526 (lv_at hl 1 rfl) ?_
    refine cx_iconst hx hb d_LA_law_528 ?_
    refine cx_iadd hx hb d_LA_law_529 ?_
    refine cx_sld hx hb hXs hbl hbA hS (by omega) (by omega) d_LA_law_530 ?_
    refine cx_cI (ws2 := fun (u : SX × SX) => laW T o u9.2.2 q n u9.2.1 x qm u.1 u.2) (cx_rV (q0 := 13) (ci := 5) (rest := []) (As := [.int (iI (sv xs (j + 1)))]) hx hb hml hown hT hK hN hP hD hl.1 tw_894 k_MO_isMarked (c_MO_isMarked l D T H.size qm n hn x y hX (sv xs (j + 1)) (by omega)) ⟨by decide, by decide⟩ ⟨rfl, rfl⟩ [13, 14, 15, 16, 17, 18, 19, 20, 21, 22] (by decide) rfl rfl rfl rfl rfl (Nat.le_of_ble_eq_true rfl) ⟨by show _ ≤ (601024 : Nat); omega, by show _ ≤ (7293000 : Nat); omega⟩ d_LA_law_531) hP hD hS hA [13, 14, 15, 16, 17, 18, 19, 20, 21, 22] [0, 1, 2, 3, 4, 5, 6, 7, 8, 9, 10, 11, 12] [0, 1, 2, 3, 4, 5, 6, 7, 8, 9, 10, 11, 12, 13, 14, 15, 16, 17, 18, 19, 20, 21, 22] rfl (wr := (o, .inl (T 3, 1, .inr (.inl u9.2.2))) :: cmX T q n u9.2.1 x) rfl (by decide) (by decide) (fun _ => rfl) (by decide) (fun r u_ H locs hq531 hP hD hS => ?_)
    obtain ⟨hr2, hu2⟩ := hq531
    simp only [if_pos hc9] at hr2 hu2
    subst hr2
    subst hu2
    have hP : va_P D vwCl (laW T o u9.2.2 q n u9.2.1 x qm x (up y 31 (cst 0))) H := hP
    have hD : va_D A (laW T o u9.2.2 q n u9.2.1 x qm x (up y 31 (cst 0))) := hD
    rcases hX.1.2 (sv xs (j + 1)) with hm8 | hm8
    · refine cx_eq (y := iI 0) (by rw [hm8]) ?_
      have hg9 : u9.2.2 0 = 0 := by rw [hg9, hm8]; first | done | rfl
      refine lv_istore (lv' := [(6, .int (iI (0))), (5, .int (iI (0))), (4, .int (iI (j))), (1, .ref (q 0)), (2, .ref (qm 20)), (3, .ref (o)), (0, .ref (b))]) hx hb d_LA_law_534 hl (by decide) rfl (fun ls hl => ?_)
      refine lv_aload_n hx hb d_LA_law_536 rfl (lv_at hl 4 rfl) ?_
      refine cx_cI (ws2 := fun (_ : Unit) => laW T o u9.2.2 q n u9.2.1 x qm x (up y 31 (cst 0))) (cx_rV (q0 := 13) (ci := 5) (rest := []) (As := []) hx hb hml hown hT hK hN hP hD hl.1 tw_723 k_MO_thrown (c_MO_thrown l D T H.size qm n hn x (up y 31 (cst 0)) hX ) ⟨by decide, by decide⟩ ⟨rfl, rfl⟩ [13, 14, 15, 16, 17, 18, 19, 20, 21, 22] (by decide) rfl rfl rfl rfl rfl (Nat.le_of_ble_eq_true rfl) ⟨by show _ ≤ (601024 : Nat); omega, by show _ ≤ (7293000 : Nat); omega⟩ d_LA_law_537) hP hD hS hA [13, 14, 15, 16, 17, 18, 19, 20, 21, 22] [0, 1, 2, 3, 4, 5, 6, 7, 8, 9, 10, 11, 12] [0, 1, 2, 3, 4, 5, 6, 7, 8, 9, 10, 11, 12, 13, 14, 15, 16, 17, 18, 19, 20, 21, 22] rfl (wr := (o, .inl (T 3, 1, .inr (.inl u9.2.2))) :: cmX T q n u9.2.1 x) rfl (by decide) (by decide) (fun _ => rfl) (by decide) (fun r u_ H locs hq537 hP hD hS => ?_)
      subst hq537
      refine cx_eq (y := iI 0) (rfl) ?_
      refine lv_iload hx hb d_LA_law_540 (lv_at hl 1 rfl) ?_
      refine lv_icmp_eq (tgt := 547) hx hb d_LA_law_542 rfl (fun _ => ?_) (fun h0 => absurd rfl h0)
      refine lv_iload hx hb d_LA_law_547 (lv_at hl 1 rfl) ?_
      refine cx_if_ne (tgt := 571) hx hb d_LA_law_549 rfl (by omega) (fun h0 => absurd h0 (by decide)) (fun _ => ?_)
      refine lv_aload_n hx hb d_LA_law_552 rfl (lv_at hl 5 rfl) ?_
      refine cx_iconst hx hb d_LA_law_553 ?_
      refine cx_lald hx hb hK hP 0 rfl d_LA_law_554 ?_
      refine lv_iload hx hb d_LA_law_555 (lv_at hl 0 rfl) ?_
      refine cx_if_eq (tgt := 564) hx hb d_LA_law_557 rfl (by omega) (fun _ => ?_) (fun h0 => absurd h0 (by decide))
      refine lv_lconst (v := 0) hx hb d_LA_law_564 rfl ?_
      refine cx_lcmpE hx hb hg9 d_LA_law_565 ?_
      refine cx_if_eq (tgt := 571) hx hb d_LA_law_566 rfl (by omega) (fun _ => ?_) (fun h0 => absurd h0 (by decide))
      refine lv_goto (tgt := 815) hx hb d_LA_law_571 rfl ?_
      exact kk x (up y 31 (cst 0)) u9.2.1 u9.2.2 _ _ _ hX hP hD hS (lv_sub hl [2, 3, 4, 5, 6] rfl)
    · refine cx_eq (y := iI 1) (by rw [hm8]) ?_
      have hg9 : u9.2.2 0 = 1 := by rw [hg9, hm8]; first | done | rfl
      refine lv_istore (lv' := [(6, .int (iI (1))), (5, .int (iI (0))), (4, .int (iI (j))), (1, .ref (q 0)), (2, .ref (qm 20)), (3, .ref (o)), (0, .ref (b))]) hx hb d_LA_law_534 hl (by decide) rfl (fun ls hl => ?_)
      refine lv_aload_n hx hb d_LA_law_536 rfl (lv_at hl 4 rfl) ?_
      refine cx_cI (ws2 := fun (_ : Unit) => laW T o u9.2.2 q n u9.2.1 x qm x (up y 31 (cst 0))) (cx_rV (q0 := 13) (ci := 5) (rest := []) (As := []) hx hb hml hown hT hK hN hP hD hl.1 tw_723 k_MO_thrown (c_MO_thrown l D T H.size qm n hn x (up y 31 (cst 0)) hX ) ⟨by decide, by decide⟩ ⟨rfl, rfl⟩ [13, 14, 15, 16, 17, 18, 19, 20, 21, 22] (by decide) rfl rfl rfl rfl rfl (Nat.le_of_ble_eq_true rfl) ⟨by show _ ≤ (601024 : Nat); omega, by show _ ≤ (7293000 : Nat); omega⟩ d_LA_law_537) hP hD hS hA [13, 14, 15, 16, 17, 18, 19, 20, 21, 22] [0, 1, 2, 3, 4, 5, 6, 7, 8, 9, 10, 11, 12] [0, 1, 2, 3, 4, 5, 6, 7, 8, 9, 10, 11, 12, 13, 14, 15, 16, 17, 18, 19, 20, 21, 22] rfl (wr := (o, .inl (T 3, 1, .inr (.inl u9.2.2))) :: cmX T q n u9.2.1 x) rfl (by decide) (by decide) (fun _ => rfl) (by decide) (fun r u_ H locs hq537 hP hD hS => ?_)
      subst hq537
      refine cx_eq (y := iI 0) (rfl) ?_
      refine lv_iload hx hb d_LA_law_540 (lv_at hl 1 rfl) ?_
      refine lv_icmp_eq (tgt := 547) hx hb d_LA_law_542 rfl (fun _ => ?_) (fun h0 => absurd rfl h0)
      refine lv_iload hx hb d_LA_law_547 (lv_at hl 1 rfl) ?_
      refine cx_if_ne (tgt := 571) hx hb d_LA_law_549 rfl (by omega) (fun h0 => absurd h0 (by decide)) (fun _ => ?_)
      refine lv_aload_n hx hb d_LA_law_552 rfl (lv_at hl 5 rfl) ?_
      refine cx_iconst hx hb d_LA_law_553 ?_
      refine cx_lald hx hb hK hP 0 rfl d_LA_law_554 ?_
      refine lv_iload hx hb d_LA_law_555 (lv_at hl 0 rfl) ?_
      refine cx_if_eq (tgt := 564) hx hb d_LA_law_557 rfl (by omega) (fun h0 => absurd h0 (by decide)) (fun _ => ?_)
      refine lv_lconst (v := 1) hx hb d_LA_law_560 rfl ?_
      refine lv_goto (tgt := 565) hx hb d_LA_law_561 rfl ?_
      refine cx_lcmpE hx hb hg9 d_LA_law_565 ?_
      refine cx_if_eq (tgt := 571) hx hb d_LA_law_566 rfl (by omega) (fun _ => ?_) (fun h0 => absurd h0 (by decide))
      refine lv_goto (tgt := 815) hx hb d_LA_law_571 rfl ?_
      exact kk x (up y 31 (cst 0)) u9.2.1 u9.2.2 _ _ _ hX hP hD hS (lv_sub hl [2, 3, 4, 5, 6] rfl)
  · rw [hu9] at hP hD
    have hP : va_P D vwCl (laW T o u9.2.2 q n u9.2.1 x qm x y) H := hP
    have hD : va_D A (laW T o u9.2.2 q n u9.2.1 x qm x y) := hD
    refine lv_istore (lv' := [(5, .int (iI (1))), (4, .int (iI (j))), (1, .ref (q 0)), (2, .ref (qm 20)), (3, .ref (o)), (0, .ref (b))]) hx hb d_LA_law_522 hl (by decide) rfl (fun ls hl => ?_)
    refine lv_aload_n hx hb d_LA_law_524 rfl (lv_at hl 3 rfl) ?_
    refine lv_aload_n hx hb d_LA_law_525 rfl (lv_at hl 5 rfl) ?_
    refine lv_iload hx hb d_LA_law_526 (lv_at hl 1 rfl) ?_
    refine cx_iconst hx hb d_LA_law_528 ?_
    refine cx_iadd hx hb d_LA_law_529 ?_
    refine cx_sld hx hb hXs hbl hbA hS (by omega) (by omega) d_LA_law_530 ?_
    refine cx_cI (ws2 := fun (u : SX × SX) => laW T o u9.2.2 q n u9.2.1 x qm u.1 u.2) (cx_rV (q0 := 13) (ci := 5) (rest := []) (As := [.int (iI (sv xs (j + 1)))]) hx hb hml hown hT hK hN hP hD hl.1 tw_894 k_MO_isMarked (c_MO_isMarked l D T H.size qm n hn x y hX (sv xs (j + 1)) (by omega)) ⟨by decide, by decide⟩ ⟨rfl, rfl⟩ [13, 14, 15, 16, 17, 18, 19, 20, 21, 22] (by decide) rfl rfl rfl rfl rfl (Nat.le_of_ble_eq_true rfl) ⟨by show _ ≤ (601024 : Nat); omega, by show _ ≤ (7293000 : Nat); omega⟩ d_LA_law_531) hP hD hS hA [13, 14, 15, 16, 17, 18, 19, 20, 21, 22] [0, 1, 2, 3, 4, 5, 6, 7, 8, 9, 10, 11, 12] [0, 1, 2, 3, 4, 5, 6, 7, 8, 9, 10, 11, 12, 13, 14, 15, 16, 17, 18, 19, 20, 21, 22] rfl (wr := (o, .inl (T 3, 1, .inr (.inl u9.2.2))) :: cmX T q n u9.2.1 x) rfl (by decide) (by decide) (fun _ => rfl) (by decide) (fun r u_ H locs hq531 hP hD hS => ?_)
    obtain ⟨hr2, hu2⟩ := hq531
    simp only [if_neg hc9] at hr2 hu2
    subst hr2
    subst hu2
    have hP : va_P D vwCl (laW T o u9.2.2 q n u9.2.1 x qm x (up y 31 (cst 1))) H := hP
    have hD : va_D A (laW T o u9.2.2 q n u9.2.1 x qm x (up y 31 (cst 1))) := hD
    refine lv_istore (lv' := [(6, .int (iI (0))), (5, .int (iI (1))), (4, .int (iI (j))), (1, .ref (q 0)), (2, .ref (qm 20)), (3, .ref (o)), (0, .ref (b))]) hx hb d_LA_law_534 hl (by decide) rfl (fun ls hl => ?_)
    refine lv_aload_n hx hb d_LA_law_536 rfl (lv_at hl 4 rfl) ?_
    refine cx_cI (ws2 := fun (_ : Unit) => laW T o u9.2.2 q n u9.2.1 x qm x (up y 31 (cst 1))) (cx_rV (q0 := 13) (ci := 5) (rest := []) (As := []) hx hb hml hown hT hK hN hP hD hl.1 tw_723 k_MO_thrown (c_MO_thrown l D T H.size qm n hn x (up y 31 (cst 1)) hX ) ⟨by decide, by decide⟩ ⟨rfl, rfl⟩ [13, 14, 15, 16, 17, 18, 19, 20, 21, 22] (by decide) rfl rfl rfl rfl rfl (Nat.le_of_ble_eq_true rfl) ⟨by show _ ≤ (601024 : Nat); omega, by show _ ≤ (7293000 : Nat); omega⟩ d_LA_law_537) hP hD hS hA [13, 14, 15, 16, 17, 18, 19, 20, 21, 22] [0, 1, 2, 3, 4, 5, 6, 7, 8, 9, 10, 11, 12] [0, 1, 2, 3, 4, 5, 6, 7, 8, 9, 10, 11, 12, 13, 14, 15, 16, 17, 18, 19, 20, 21, 22] rfl (wr := (o, .inl (T 3, 1, .inr (.inl u9.2.2))) :: cmX T q n u9.2.1 x) rfl (by decide) (by decide) (fun _ => rfl) (by decide) (fun r u_ H locs hq537 hP hD hS => ?_)
    subst hq537
    refine cx_eq (y := iI 1) (rfl) ?_
    refine lv_iload hx hb d_LA_law_540 (lv_at hl 1 rfl) ?_
    refine lv_icmp_eq (tgt := 547) hx hb d_LA_law_542 rfl (fun _ => ?_) (fun h0 => absurd rfl h0)
    refine lv_iload hx hb d_LA_law_547 (lv_at hl 1 rfl) ?_
    refine cx_if_ne (tgt := 571) hx hb d_LA_law_549 rfl (by omega) (fun _ => ?_) (fun h0 => absurd h0 (by decide))
    refine lv_goto (tgt := 815) hx hb d_LA_law_571 rfl ?_
    exact kk x (up y 31 (cst 1)) u9.2.1 u9.2.2 _ _ _ hX hP hD hS (lv_sub hl [2, 3, 4, 5, 6] rfl)

set_option maxHeartbeats 4000000 in
set_option maxRecDepth 100000 in
theorem law_8 (C0 : laC p l e s m meth c b L xs A D T n) (hn : 400 ≤ n ∧ n ≤ 2000) (j : Int) (hj : 1 ≤ j ∧ j + 5 ≤ L) (x y : SX) (d : Int → Int) (g : Nat → Int64) (hX : okX x) {H : Heap} {locs : List Loc} {ls : Array Slot} {cells slots : Nat} (hf9 : cells + 1 ≤ 601024 ∧ slots + 6 ≤ 7293000) (hP : va_P D vwCl (laW T o g q n d x qm x y) H) (hD : va_D A (laW T o g q n d x qm x y)) (hS : va_S A s.heap H locs) (hl : lv_has ls 8 (laL j q qm o b)) (kk : laK p l e s m below meth c b A D T q qm o n Q j (cells + 1) (slots + 6)) : W p l e room_1 s m #[Value.ref b] below meth c H locs cells slots Q (F0 m 574 ls []) := by
  obtain ⟨hx, hb, hml, hT, hown, hK, hN, hZ, hA, hXs, hbl, hbA, hlt, hL⟩ := C0
  have hl : lv_has ls 8 [(4, .int (iI (j))), (1, .ref (q 0)), (2, .ref (qm 20)), (3, .ref (o)), (0, .ref (b))] := hl
  have hv1 := sv_in xs (j + 1)
  have hv2 := sv_in xs (j + 2)
  have hv3 := sv_in xs (j + 3)
  have hv4 := sv_in xs (j + 4)
  refine lv_aload_n hx hb d_LA_law_574 rfl (lv_at hl 1 rfl) ?_
  refine lv_aload_n hx hb d_LA_law_575 rfl (lv_at hl 4 rfl) ?_
  refine lv_iload hx hb d_LA_law_576 (lv_at hl 0 rfl) ?_
  refine cx_iconst hx hb d_LA_law_578 ?_
  refine cx_iadd hx hb d_LA_law_579 ?_
  refine cx_sld hx hb hXs hbl hbA hS (by omega) (by omega) d_LA_law_580 ?_
  refine cx_cI (ws2 := fun (_ : Unit) => laW T o g q n d x qm x y) (cx_rV (q0 := 1) (ci := 4) (rest := []) (As := [.int (iI (sv xs (j + 1)))]) hx hb hml hown hT hK hN hP hD hl.1 tw_170 k_CM_state (c_CM_state l D T H.size q n hn d x hX (sv xs (j + 1)) (by omega)) ⟨by decide, by decide⟩ ⟨rfl, rfl⟩ [1, 2, 3, 4, 5, 6, 7, 8, 9, 10, 11, 12] (by decide) rfl rfl rfl rfl rfl (Nat.le_of_ble_eq_true rfl) ⟨by show _ ≤ (601024 : Nat); omega, by show _ ≤ (7293000 : Nat); omega⟩ d_LA_law_581) hP hD hS hA [1, 2, 3, 4, 5, 6, 7, 8, 9, 10, 11, 12] [0, 13, 14, 15, 16, 17, 18, 19, 20, 21, 22] [0, 11, 12, 13, 14, 15, 16, 17, 18, 19, 20, 21, 22, 1, 2, 3, 4, 5, 6, 7, 8, 9, 10] rfl (wr := (o, .inl (T 3, 1, .inr (.inl g))) :: moX T qm n x y) rfl (by decide) (by decide) (fun _ => rfl) (by decide) (fun r u_ H locs hq581 hP hD hS => ?_)
  subst hq581
  refine lv_aload_n hx hb d_LA_law_584 rfl (lv_at hl 2 rfl) ?_
  refine lv_aload_n hx hb d_LA_law_585 rfl (lv_at hl 4 rfl) ?_
  refine lv_iload hx hb d_LA_law_586 (lv_at hl 0 rfl) ?_
  refine cx_iconst hx hb d_LA_law_588 ?_
  refine cx_iadd hx hb d_LA_law_589 ?_
  refine cx_sld hx hb hXs hbl hbA hS (by omega) (by omega) d_LA_law_590 ?_
  refine cx_cI (ws2 := fun (u : SX × SX) => laW T o g q n d x qm u.1 u.2) (cx_rV (q0 := 13) (ci := 5) (rest := [.int (iI (stvS n (sv xs (j + 1)) x))]) (As := [.int (iI (sv xs (j + 1)))]) hx hb hml hown hT hK hN hP hD hl.1 tw_898 k_MO_state (c_MO_state l D T H.size qm n hn x y hX (sv xs (j + 1)) (by omega)) ⟨by decide, by decide⟩ ⟨rfl, rfl⟩ [13, 14, 15, 16, 17, 18, 19, 20, 21, 22] (by decide) rfl rfl rfl rfl rfl (Nat.le_of_ble_eq_true rfl) ⟨by show _ ≤ (601024 : Nat); omega, by show _ ≤ (7293000 : Nat); omega⟩ d_LA_law_591) hP hD hS hA [13, 14, 15, 16, 17, 18, 19, 20, 21, 22] [0, 1, 2, 3, 4, 5, 6, 7, 8, 9, 10, 11, 12] [0, 1, 2, 3, 4, 5, 6, 7, 8, 9, 10, 11, 12, 13, 14, 15, 16, 17, 18, 19, 20, 21, 22] rfl (wr := (o, .inl (T 3, 1, .inr (.inl g))) :: cmX T q n d x) rfl (by decide) (by decide) (fun _ => rfl) (by decide) (fun r u_ H locs hq591 hP hD hS => ?_)
  obtain ⟨hr2, hu2⟩ := hq591
  subst hr2
  subst hu2
  have hP : va_P D vwCl (laW T o g q n d x qm x (up y 31 (cst 0))) H := hP
  have hD : va_D A (laW T o g q n d x qm x (up y 31 (cst 0))) := hD
  refine lv_icmp_eq (tgt := 815) hx hb d_LA_law_594 rfl (fun _ => ?_) (fun h0 => absurd rfl h0)
  exact W.widen (k := cells + 1) (n := slots + 6) (by omega) (by omega) (kk x (up y 31 (cst 0)) d g _ _ _ hX hP hD hS (lv_sub hl [0, 1, 2, 3, 4] rfl))

set_option maxHeartbeats 4000000 in
set_option maxRecDepth 100000 in
theorem law_9 (C0 : laC p l e s m meth c b L xs A D T n) (hn : 400 ≤ n ∧ n ≤ 2000) (j : Int) (hj : 1 ≤ j ∧ j + 5 ≤ L) (x y : SX) (d : Int → Int) (g : Nat → Int64) (hX : okX x) {H : Heap} {locs : List Loc} {ls : Array Slot} {cells slots : Nat} (hf9 : cells + 1 ≤ 601024 ∧ slots + 6 ≤ 7293000) (hP : va_P D vwCl (laW T o g q n d x qm x y) H) (hD : va_D A (laW T o g q n d x qm x y)) (hS : va_S A s.heap H locs) (hl : lv_has ls 8 (laL j q qm o b)) (kk : laK p l e s m below meth c b A D T q qm o n Q j (cells + 1) (slots + 6)) : W p l e room_1 s m #[Value.ref b] below meth c H locs cells slots Q (F0 m 599 ls []) := by
  obtain ⟨hx, hb, hml, hT, hown, hK, hN, hZ, hA, hXs, hbl, hbA, hlt, hL⟩ := C0
  have hl : lv_has ls 8 [(4, .int (iI (j))), (1, .ref (q 0)), (2, .ref (qm 20)), (3, .ref (o)), (0, .ref (b))] := hl
  have hv1 := sv_in xs (j + 1)
  have hv2 := sv_in xs (j + 2)
  have hv3 := sv_in xs (j + 3)
  have hv4 := sv_in xs (j + 4)
  refine lv_aload_n hx hb d_LA_law_599 rfl (lv_at hl 1 rfl) ?_
  refine lv_aload_n hx hb d_LA_law_600 rfl (lv_at hl 4 rfl) ?_
  refine lv_iload hx hb d_LA_law_601 (lv_at hl 0 rfl) ?_
  refine cx_iconst hx hb d_LA_law_603 ?_
  refine cx_iadd hx hb d_LA_law_604 ?_
  refine cx_sld hx hb hXs hbl hbA hS (by omega) (by omega) d_LA_law_605 ?_
  refine lv_aload_n hx hb d_LA_law_606 rfl (lv_at hl 4 rfl) ?_
  refine lv_iload hx hb d_LA_law_607 (lv_at hl 0 rfl) ?_
  refine cx_iconst hx hb d_LA_law_609 ?_
  refine cx_iadd hx hb d_LA_law_610 ?_
  refine cx_sld hx hb hXs hbl hbA hS (by omega) (by omega) d_LA_law_611 ?_
  refine lv_aload_n hx hb d_LA_law_612 rfl (lv_at hl 3 rfl) ?_
  refine cx_cH (ws2 := fun (u9 : SX × (Int → Int) × (Nat → Int64)) => laW T o u9.2.2 q n u9.2.1 u9.1 qm x y) (cx_rH (rest := []) (As := [.ref (q 0), .int (iI (sv xs (j + 1))), .int (iI (sv xs (j + 2))), .ref (o)]) hx hb hml hown hT hK hN hP hD hS hA hZ hl.1 tw_584 kh_LA_printed (c_LA_printed l D T H.size q n hn d x hX hlt o g (sv xs (j + 1)) (sv xs (j + 2)) (by omega) (by omega)) ⟨by decide, by decide⟩ ⟨rfl, rfl⟩ [0, 1, 2, 3, 4, 5, 6, 7, 8, 9, 10, 11, 12] (by decide) rfl rfl rfl (Nat.le_of_ble_eq_true rfl) ⟨by show _ ≤ (601024 : Nat); omega, by show _ ≤ (7293000 : Nat); omega⟩ d_LA_law_613) hP hD hS hA [0, 1, 2, 3, 4, 5, 6, 7, 8, 9, 10, 11, 12] [13, 14, 15, 16, 17, 18, 19, 20, 21, 22] [10, 11, 12, 13, 14, 15, 16, 17, 18, 19, 20, 21, 22, 0, 1, 2, 3, 4, 5, 6, 7, 8, 9] rfl (wr := moX T qm n x y) rfl (by decide) (by decide) (fun _ => rfl) (by decide) (fun r9 u9 H locs hq9 hP hD hS => ?_)
  rcases hq9 with ⟨rfl, hc9, hu9, hg9⟩ | ⟨rfl, hc9, hu9⟩
  · rw [hu9] at hP hD
    have hP : va_P D vwCl (laW T o u9.2.2 q n u9.2.1 x qm x y) H := hP
    have hD : va_D A (laW T o u9.2.2 q n u9.2.1 x qm x y) := hD
    refine lv_istore (lv' := [(5, .int (iI (0))), (4, .int (iI (j))), (1, .ref (q 0)), (2, .ref (qm 20)), (3, .ref (o)), (0, .ref (b))]) hx hb d_LA_law_616 hl (by decide) rfl (fun ls hl => ?_)
    refine lv_aload_n hx hb d_LA_law_618 rfl (lv_at hl 3 rfl) ?_
    refine lv_aload_n hx hb d_LA_law_619 rfl (lv_at hl 5 rfl) ?_
    refine lv_iload hx hb d_LA_law_620 (lv_at hl 1 rfl) ?_
    refine cx_iconst hx hb d_LA_law_622 ?_
    refine cx_iadd hx hb d_LA_law_623 ?_
    refine cx_sld hx hb hXs hbl hbA hS (by omega) (by omega) d_LA_law_624 ?_
    refine lv_aload_n hx hb d_LA_law_625 rfl (lv_at hl 5 rfl) ?_
    refine lv_iload hx hb d_LA_law_626 (lv_at hl 1 rfl) ?_
    refine cx_iconst hx hb d_LA_law_628 ?_
    refine cx_iadd hx hb d_LA_law_629 ?_
    refine cx_sld hx hb hXs hbl hbA hS (by omega) (by omega) d_LA_law_630 ?_
    refine cx_cI (ws2 := fun (u : SX × SX) => laW T o u9.2.2 q n u9.2.1 x qm u.1 u.2) (cx_rV (q0 := 13) (ci := 5) (rest := []) (As := [.int (iI (sv xs (j + 1))), .int (iI (sv xs (j + 2)))]) hx hb hml hown hT hK hN hP hD hl.1 tw_902 k_MO_printed (c_MO_printed l D T H.size qm n hn x y hX (sv xs (j + 1)) (sv xs (j + 2)) (by omega) (by omega)) ⟨by decide, by decide⟩ ⟨rfl, rfl⟩ [13, 14, 15, 16, 17, 18, 19, 20, 21, 22] (by decide) rfl rfl rfl rfl rfl (Nat.le_of_ble_eq_true rfl) ⟨by show _ ≤ (601024 : Nat); omega, by show _ ≤ (7293000 : Nat); omega⟩ d_LA_law_631) hP hD hS hA [13, 14, 15, 16, 17, 18, 19, 20, 21, 22] [0, 1, 2, 3, 4, 5, 6, 7, 8, 9, 10, 11, 12] [0, 1, 2, 3, 4, 5, 6, 7, 8, 9, 10, 11, 12, 13, 14, 15, 16, 17, 18, 19, 20, 21, 22] rfl (wr := (o, .inl (T 3, 1, .inr (.inl u9.2.2))) :: cmX T q n u9.2.1 x) rfl (by decide) (by decide) (fun _ => rfl) (by decide) (fun r u_ H locs hq631 hP hD hS => ?_)
    obtain ⟨hr2, hu2⟩ := hq631
    simp only [if_pos hc9] at hr2 hu2
    subst hr2
    subst hu2
    have hP : va_P D vwCl (laW T o u9.2.2 q n u9.2.1 x qm x (up y 31 (cst 0))) H := hP
    have hD : va_D A (laW T o u9.2.2 q n u9.2.1 x qm x (up y 31 (cst 0))) := hD
    refine lv_istore (lv' := [(6, .int (iI (x 3 ((sv xs (j + 1)) * 132 + (sv xs (j + 2)) - 1)))), (5, .int (iI (0))), (4, .int (iI (j))), (1, .ref (q 0)), (2, .ref (qm 20)), (3, .ref (o)), (0, .ref (b))]) hx hb d_LA_law_634 hl (by decide) rfl (fun ls hl => ?_)
    refine lv_aload_n hx hb d_LA_law_636 rfl (lv_at hl 4 rfl) ?_
    refine cx_cI (ws2 := fun (_ : Unit) => laW T o u9.2.2 q n u9.2.1 x qm x (up y 31 (cst 0))) (cx_rV (q0 := 13) (ci := 5) (rest := []) (As := []) hx hb hml hown hT hK hN hP hD hl.1 tw_723 k_MO_thrown (c_MO_thrown l D T H.size qm n hn x (up y 31 (cst 0)) hX ) ⟨by decide, by decide⟩ ⟨rfl, rfl⟩ [13, 14, 15, 16, 17, 18, 19, 20, 21, 22] (by decide) rfl rfl rfl rfl rfl (Nat.le_of_ble_eq_true rfl) ⟨by show _ ≤ (601024 : Nat); omega, by show _ ≤ (7293000 : Nat); omega⟩ d_LA_law_637) hP hD hS hA [13, 14, 15, 16, 17, 18, 19, 20, 21, 22] [0, 1, 2, 3, 4, 5, 6, 7, 8, 9, 10, 11, 12] [0, 1, 2, 3, 4, 5, 6, 7, 8, 9, 10, 11, 12, 13, 14, 15, 16, 17, 18, 19, 20, 21, 22] rfl (wr := (o, .inl (T 3, 1, .inr (.inl u9.2.2))) :: cmX T q n u9.2.1 x) rfl (by decide) (by decide) (fun _ => rfl) (by decide) (fun r u_ H locs hq637 hP hD hS => ?_)
    subst hq637
    refine cx_eq (y := iI 0) (rfl) ?_
    refine lv_iload hx hb d_LA_law_640 (lv_at hl 1 rfl) ?_
    refine lv_icmp_eq (tgt := 647) hx hb d_LA_law_642 rfl (fun _ => ?_) (fun h0 => absurd rfl h0)
    refine lv_iload hx hb d_LA_law_647 (lv_at hl 1 rfl) ?_
    refine cx_if_ne (tgt := 664) hx hb d_LA_law_649 rfl (by omega) (fun h0 => absurd h0 (by decide)) (fun _ => ?_)
    refine lv_aload_n hx hb d_LA_law_652 rfl (lv_at hl 5 rfl) ?_
    refine cx_iconst hx hb d_LA_law_653 ?_
    refine cx_lald hx hb hK hP 0 rfl d_LA_law_654 ?_
    refine lv_iload hx hb d_LA_law_655 (lv_at hl 0 rfl) ?_
    refine lv_i2l (v := (iI (x 3 ((sv xs (j + 1)) * 132 + (sv xs (j + 2)) - 1))).toInt64) hx hb d_LA_law_657 rfl ?_
    refine cx_lcmpE hx hb hg9 d_LA_law_658 ?_
    refine cx_if_eq (tgt := 664) hx hb d_LA_law_659 rfl (by omega) (fun _ => ?_) (fun h0 => absurd h0 (by decide))
    refine lv_goto (tgt := 815) hx hb d_LA_law_664 rfl ?_
    exact kk x (up y 31 (cst 0)) u9.2.1 u9.2.2 _ _ _ hX hP hD hS (lv_sub hl [2, 3, 4, 5, 6] rfl)
  · rw [hu9] at hP hD
    have hP : va_P D vwCl (laW T o u9.2.2 q n u9.2.1 x qm x y) H := hP
    have hD : va_D A (laW T o u9.2.2 q n u9.2.1 x qm x y) := hD
    refine lv_istore (lv' := [(5, .int (iI (1))), (4, .int (iI (j))), (1, .ref (q 0)), (2, .ref (qm 20)), (3, .ref (o)), (0, .ref (b))]) hx hb d_LA_law_616 hl (by decide) rfl (fun ls hl => ?_)
    refine lv_aload_n hx hb d_LA_law_618 rfl (lv_at hl 3 rfl) ?_
    refine lv_aload_n hx hb d_LA_law_619 rfl (lv_at hl 5 rfl) ?_
    refine lv_iload hx hb d_LA_law_620 (lv_at hl 1 rfl) ?_
    refine cx_iconst hx hb d_LA_law_622 ?_
    refine cx_iadd hx hb d_LA_law_623 ?_
    refine cx_sld hx hb hXs hbl hbA hS (by omega) (by omega) d_LA_law_624 ?_
    refine lv_aload_n hx hb d_LA_law_625 rfl (lv_at hl 5 rfl) ?_
    refine lv_iload hx hb d_LA_law_626 (lv_at hl 1 rfl) ?_
    refine cx_iconst hx hb d_LA_law_628 ?_
    refine cx_iadd hx hb d_LA_law_629 ?_
    refine cx_sld hx hb hXs hbl hbA hS (by omega) (by omega) d_LA_law_630 ?_
    refine cx_cI (ws2 := fun (u : SX × SX) => laW T o u9.2.2 q n u9.2.1 x qm u.1 u.2) (cx_rV (q0 := 13) (ci := 5) (rest := []) (As := [.int (iI (sv xs (j + 1))), .int (iI (sv xs (j + 2)))]) hx hb hml hown hT hK hN hP hD hl.1 tw_902 k_MO_printed (c_MO_printed l D T H.size qm n hn x y hX (sv xs (j + 1)) (sv xs (j + 2)) (by omega) (by omega)) ⟨by decide, by decide⟩ ⟨rfl, rfl⟩ [13, 14, 15, 16, 17, 18, 19, 20, 21, 22] (by decide) rfl rfl rfl rfl rfl (Nat.le_of_ble_eq_true rfl) ⟨by show _ ≤ (601024 : Nat); omega, by show _ ≤ (7293000 : Nat); omega⟩ d_LA_law_631) hP hD hS hA [13, 14, 15, 16, 17, 18, 19, 20, 21, 22] [0, 1, 2, 3, 4, 5, 6, 7, 8, 9, 10, 11, 12] [0, 1, 2, 3, 4, 5, 6, 7, 8, 9, 10, 11, 12, 13, 14, 15, 16, 17, 18, 19, 20, 21, 22] rfl (wr := (o, .inl (T 3, 1, .inr (.inl u9.2.2))) :: cmX T q n u9.2.1 x) rfl (by decide) (by decide) (fun _ => rfl) (by decide) (fun r u_ H locs hq631 hP hD hS => ?_)
    obtain ⟨hr2, hu2⟩ := hq631
    simp only [if_neg hc9] at hr2 hu2
    subst hr2
    subst hu2
    have hP : va_P D vwCl (laW T o u9.2.2 q n u9.2.1 x qm x (up y 31 (cst 1))) H := hP
    have hD : va_D A (laW T o u9.2.2 q n u9.2.1 x qm x (up y 31 (cst 1))) := hD
    refine lv_istore (lv' := [(6, .int (iI (0))), (5, .int (iI (1))), (4, .int (iI (j))), (1, .ref (q 0)), (2, .ref (qm 20)), (3, .ref (o)), (0, .ref (b))]) hx hb d_LA_law_634 hl (by decide) rfl (fun ls hl => ?_)
    refine lv_aload_n hx hb d_LA_law_636 rfl (lv_at hl 4 rfl) ?_
    refine cx_cI (ws2 := fun (_ : Unit) => laW T o u9.2.2 q n u9.2.1 x qm x (up y 31 (cst 1))) (cx_rV (q0 := 13) (ci := 5) (rest := []) (As := []) hx hb hml hown hT hK hN hP hD hl.1 tw_723 k_MO_thrown (c_MO_thrown l D T H.size qm n hn x (up y 31 (cst 1)) hX ) ⟨by decide, by decide⟩ ⟨rfl, rfl⟩ [13, 14, 15, 16, 17, 18, 19, 20, 21, 22] (by decide) rfl rfl rfl rfl rfl (Nat.le_of_ble_eq_true rfl) ⟨by show _ ≤ (601024 : Nat); omega, by show _ ≤ (7293000 : Nat); omega⟩ d_LA_law_637) hP hD hS hA [13, 14, 15, 16, 17, 18, 19, 20, 21, 22] [0, 1, 2, 3, 4, 5, 6, 7, 8, 9, 10, 11, 12] [0, 1, 2, 3, 4, 5, 6, 7, 8, 9, 10, 11, 12, 13, 14, 15, 16, 17, 18, 19, 20, 21, 22] rfl (wr := (o, .inl (T 3, 1, .inr (.inl u9.2.2))) :: cmX T q n u9.2.1 x) rfl (by decide) (by decide) (fun _ => rfl) (by decide) (fun r u_ H locs hq637 hP hD hS => ?_)
    subst hq637
    refine cx_eq (y := iI 1) (rfl) ?_
    refine lv_iload hx hb d_LA_law_640 (lv_at hl 1 rfl) ?_
    refine lv_icmp_eq (tgt := 647) hx hb d_LA_law_642 rfl (fun _ => ?_) (fun h0 => absurd rfl h0)
    refine lv_iload hx hb d_LA_law_647 (lv_at hl 1 rfl) ?_
    refine cx_if_ne (tgt := 664) hx hb d_LA_law_649 rfl (by omega) (fun _ => ?_) (fun h0 => absurd h0 (by decide))
    refine lv_goto (tgt := 815) hx hb d_LA_law_664 rfl ?_
    exact kk x (up y 31 (cst 1)) u9.2.1 u9.2.2 _ _ _ hX hP hD hS (lv_sub hl [2, 3, 4, 5, 6] rfl)

set_option maxHeartbeats 4000000 in
set_option maxRecDepth 100000 in
theorem law_10 (C0 : laC p l e s m meth c b L xs A D T n) (hn : 400 ≤ n ∧ n ≤ 2000) (j : Int) (hj : 1 ≤ j ∧ j + 5 ≤ L) (x y : SX) (d : Int → Int) (g : Nat → Int64) (hX : okX x) {H : Heap} {locs : List Loc} {ls : Array Slot} {cells slots : Nat} (hf9 : cells + 1 ≤ 601024 ∧ slots + 6 ≤ 7293000) (hP : va_P D vwCl (laW T o g q n d x qm x y) H) (hD : va_D A (laW T o g q n d x qm x y)) (hS : va_S A s.heap H locs) (hl : lv_has ls 8 (laL j q qm o b)) (kk : laK p l e s m below meth c b A D T q qm o n Q j (cells + 1) (slots + 6)) : W p l e room_1 s m #[Value.ref b] below meth c H locs cells slots Q (F0 m 667 ls []) := by
  obtain ⟨hx, hb, hml, hT, hown, hK, hN, hZ, hA, hXs, hbl, hbA, hlt, hL⟩ := C0
  have hl : lv_has ls 8 [(4, .int (iI (j))), (1, .ref (q 0)), (2, .ref (qm 20)), (3, .ref (o)), (0, .ref (b))] := hl
  have hv1 := sv_in xs (j + 1)
  have hv2 := sv_in xs (j + 2)
  have hv3 := sv_in xs (j + 3)
  have hv4 := sv_in xs (j + 4)
  refine lv_aload_n hx hb d_LA_law_667 rfl (lv_at hl 1 rfl) ?_
  refine lv_aload_n hx hb d_LA_law_668 rfl (lv_at hl 4 rfl) ?_
  refine lv_iload hx hb d_LA_law_669 (lv_at hl 0 rfl) ?_
  refine cx_iconst hx hb d_LA_law_671 ?_
  refine cx_iadd hx hb d_LA_law_672 ?_
  refine cx_sld hx hb hXs hbl hbA hS (by omega) (by omega) d_LA_law_673 ?_
  refine lv_aload_n hx hb d_LA_law_674 rfl (lv_at hl 4 rfl) ?_
  refine lv_iload hx hb d_LA_law_675 (lv_at hl 0 rfl) ?_
  refine cx_iconst hx hb d_LA_law_677 ?_
  refine cx_iadd hx hb d_LA_law_678 ?_
  refine cx_sld hx hb hXs hbl hbA hS (by omega) (by omega) d_LA_law_679 ?_
  refine lv_aload_n hx hb d_LA_law_680 rfl (lv_at hl 3 rfl) ?_
  refine cx_cH (ws2 := fun (u9 : SX × (Int → Int) × (Nat → Int64)) => laW T o u9.2.2 q n u9.2.1 u9.1 qm x y) (cx_rH (rest := []) (As := [.ref (q 0), .int (iI (sv xs (j + 1))), .int (iI (sv xs (j + 2))), .ref (o)]) hx hb hml hown hT hK hN hP hD hS hA hZ hl.1 tw_596 kh_LA_punched (c_LA_punched l D T H.size q n hn d x hX hlt o g (sv xs (j + 1)) (sv xs (j + 2)) (by omega) (by omega)) ⟨by decide, by decide⟩ ⟨rfl, rfl⟩ [0, 1, 2, 3, 4, 5, 6, 7, 8, 9, 10, 11, 12] (by decide) rfl rfl rfl (Nat.le_of_ble_eq_true rfl) ⟨by show _ ≤ (601024 : Nat); omega, by show _ ≤ (7293000 : Nat); omega⟩ d_LA_law_681) hP hD hS hA [0, 1, 2, 3, 4, 5, 6, 7, 8, 9, 10, 11, 12] [13, 14, 15, 16, 17, 18, 19, 20, 21, 22] [10, 11, 12, 13, 14, 15, 16, 17, 18, 19, 20, 21, 22, 0, 1, 2, 3, 4, 5, 6, 7, 8, 9] rfl (wr := moX T qm n x y) rfl (by decide) (by decide) (fun _ => rfl) (by decide) (fun r9 u9 H locs hq9 hP hD hS => ?_)
  rcases hq9 with ⟨rfl, hc9, hu9, hg9⟩ | ⟨rfl, hc9, hu9⟩
  · rw [hu9] at hP hD
    have hP : va_P D vwCl (laW T o u9.2.2 q n u9.2.1 x qm x y) H := hP
    have hD : va_D A (laW T o u9.2.2 q n u9.2.1 x qm x y) := hD
    refine lv_istore (lv' := [(5, .int (iI (0))), (4, .int (iI (j))), (1, .ref (q 0)), (2, .ref (qm 20)), (3, .ref (o)), (0, .ref (b))]) hx hb d_LA_law_684 hl (by decide) rfl (fun ls hl => ?_)
    refine lv_aload_n hx hb d_LA_law_686 rfl (lv_at hl 3 rfl) ?_
    refine lv_aload_n hx hb d_LA_law_687 rfl (lv_at hl 5 rfl) ?_
    refine lv_iload hx hb d_LA_law_688 (lv_at hl 1 rfl) ?_
    refine cx_iconst hx hb d_LA_law_690 ?_
    refine cx_iadd hx hb d_LA_law_691 ?_
    refine cx_sld hx hb hXs hbl hbA hS (by omega) (by omega) d_LA_law_692 ?_
    refine lv_aload_n hx hb d_LA_law_693 rfl (lv_at hl 5 rfl) ?_
    refine lv_iload hx hb d_LA_law_694 (lv_at hl 1 rfl) ?_
    refine cx_iconst hx hb d_LA_law_696 ?_
    refine cx_iadd hx hb d_LA_law_697 ?_
    refine cx_sld hx hb hXs hbl hbA hS (by omega) (by omega) d_LA_law_698 ?_
    refine cx_cI (ws2 := fun (u : SX × SX) => laW T o u9.2.2 q n u9.2.1 x qm u.1 u.2) (cx_rV (q0 := 13) (ci := 5) (rest := []) (As := [.int (iI (sv xs (j + 1))), .int (iI (sv xs (j + 2)))]) hx hb hml hown hT hK hN hP hD hl.1 tw_906 k_MO_punched (c_MO_punched l D T H.size qm n hn x y hX (sv xs (j + 1)) (sv xs (j + 2)) (by omega) (by omega)) ⟨by decide, by decide⟩ ⟨rfl, rfl⟩ [13, 14, 15, 16, 17, 18, 19, 20, 21, 22] (by decide) rfl rfl rfl rfl rfl (Nat.le_of_ble_eq_true rfl) ⟨by show _ ≤ (601024 : Nat); omega, by show _ ≤ (7293000 : Nat); omega⟩ d_LA_law_699) hP hD hS hA [13, 14, 15, 16, 17, 18, 19, 20, 21, 22] [0, 1, 2, 3, 4, 5, 6, 7, 8, 9, 10, 11, 12] [0, 1, 2, 3, 4, 5, 6, 7, 8, 9, 10, 11, 12, 13, 14, 15, 16, 17, 18, 19, 20, 21, 22] rfl (wr := (o, .inl (T 3, 1, .inr (.inl u9.2.2))) :: cmX T q n u9.2.1 x) rfl (by decide) (by decide) (fun _ => rfl) (by decide) (fun r u_ H locs hq699 hP hD hS => ?_)
    obtain ⟨hr2, hu2⟩ := hq699
    simp only [if_pos hc9] at hr2 hu2
    subst hr2
    subst hu2
    have hP : va_P D vwCl (laW T o u9.2.2 q n u9.2.1 x qm x (up y 31 (cst 0))) H := hP
    have hD : va_D A (laW T o u9.2.2 q n u9.2.1 x qm x (up y 31 (cst 0))) := hD
    refine lv_istore (lv' := [(6, .int (iI (x 4 ((sv xs (j + 1)) * 80 + (sv xs (j + 2)) - 1)))), (5, .int (iI (0))), (4, .int (iI (j))), (1, .ref (q 0)), (2, .ref (qm 20)), (3, .ref (o)), (0, .ref (b))]) hx hb d_LA_law_702 hl (by decide) rfl (fun ls hl => ?_)
    refine lv_aload_n hx hb d_LA_law_704 rfl (lv_at hl 4 rfl) ?_
    refine cx_cI (ws2 := fun (_ : Unit) => laW T o u9.2.2 q n u9.2.1 x qm x (up y 31 (cst 0))) (cx_rV (q0 := 13) (ci := 5) (rest := []) (As := []) hx hb hml hown hT hK hN hP hD hl.1 tw_723 k_MO_thrown (c_MO_thrown l D T H.size qm n hn x (up y 31 (cst 0)) hX ) ⟨by decide, by decide⟩ ⟨rfl, rfl⟩ [13, 14, 15, 16, 17, 18, 19, 20, 21, 22] (by decide) rfl rfl rfl rfl rfl (Nat.le_of_ble_eq_true rfl) ⟨by show _ ≤ (601024 : Nat); omega, by show _ ≤ (7293000 : Nat); omega⟩ d_LA_law_705) hP hD hS hA [13, 14, 15, 16, 17, 18, 19, 20, 21, 22] [0, 1, 2, 3, 4, 5, 6, 7, 8, 9, 10, 11, 12] [0, 1, 2, 3, 4, 5, 6, 7, 8, 9, 10, 11, 12, 13, 14, 15, 16, 17, 18, 19, 20, 21, 22] rfl (wr := (o, .inl (T 3, 1, .inr (.inl u9.2.2))) :: cmX T q n u9.2.1 x) rfl (by decide) (by decide) (fun _ => rfl) (by decide) (fun r u_ H locs hq705 hP hD hS => ?_)
    subst hq705
    refine cx_eq (y := iI 0) (rfl) ?_
    refine lv_iload hx hb d_LA_law_708 (lv_at hl 1 rfl) ?_
    refine lv_icmp_eq (tgt := 715) hx hb d_LA_law_710 rfl (fun _ => ?_) (fun h0 => absurd rfl h0)
    refine lv_iload hx hb d_LA_law_715 (lv_at hl 1 rfl) ?_
    refine cx_if_ne (tgt := 732) hx hb d_LA_law_717 rfl (by omega) (fun h0 => absurd h0 (by decide)) (fun _ => ?_)
    refine lv_aload_n hx hb d_LA_law_720 rfl (lv_at hl 5 rfl) ?_
    refine cx_iconst hx hb d_LA_law_721 ?_
    refine cx_lald hx hb hK hP 0 rfl d_LA_law_722 ?_
    refine lv_iload hx hb d_LA_law_723 (lv_at hl 0 rfl) ?_
    refine lv_i2l (v := (iI (x 4 ((sv xs (j + 1)) * 80 + (sv xs (j + 2)) - 1))).toInt64) hx hb d_LA_law_725 rfl ?_
    refine cx_lcmpE hx hb hg9 d_LA_law_726 ?_
    refine cx_if_eq (tgt := 732) hx hb d_LA_law_727 rfl (by omega) (fun _ => ?_) (fun h0 => absurd h0 (by decide))
    refine lv_goto (tgt := 815) hx hb d_LA_law_732 rfl ?_
    exact kk x (up y 31 (cst 0)) u9.2.1 u9.2.2 _ _ _ hX hP hD hS (lv_sub hl [2, 3, 4, 5, 6] rfl)
  · rw [hu9] at hP hD
    have hP : va_P D vwCl (laW T o u9.2.2 q n u9.2.1 x qm x y) H := hP
    have hD : va_D A (laW T o u9.2.2 q n u9.2.1 x qm x y) := hD
    refine lv_istore (lv' := [(5, .int (iI (1))), (4, .int (iI (j))), (1, .ref (q 0)), (2, .ref (qm 20)), (3, .ref (o)), (0, .ref (b))]) hx hb d_LA_law_684 hl (by decide) rfl (fun ls hl => ?_)
    refine lv_aload_n hx hb d_LA_law_686 rfl (lv_at hl 3 rfl) ?_
    refine lv_aload_n hx hb d_LA_law_687 rfl (lv_at hl 5 rfl) ?_
    refine lv_iload hx hb d_LA_law_688 (lv_at hl 1 rfl) ?_
    refine cx_iconst hx hb d_LA_law_690 ?_
    refine cx_iadd hx hb d_LA_law_691 ?_
    refine cx_sld hx hb hXs hbl hbA hS (by omega) (by omega) d_LA_law_692 ?_
    refine lv_aload_n hx hb d_LA_law_693 rfl (lv_at hl 5 rfl) ?_
    refine lv_iload hx hb d_LA_law_694 (lv_at hl 1 rfl) ?_
    refine cx_iconst hx hb d_LA_law_696 ?_
    refine cx_iadd hx hb d_LA_law_697 ?_
    refine cx_sld hx hb hXs hbl hbA hS (by omega) (by omega) d_LA_law_698 ?_
    refine cx_cI (ws2 := fun (u : SX × SX) => laW T o u9.2.2 q n u9.2.1 x qm u.1 u.2) (cx_rV (q0 := 13) (ci := 5) (rest := []) (As := [.int (iI (sv xs (j + 1))), .int (iI (sv xs (j + 2)))]) hx hb hml hown hT hK hN hP hD hl.1 tw_906 k_MO_punched (c_MO_punched l D T H.size qm n hn x y hX (sv xs (j + 1)) (sv xs (j + 2)) (by omega) (by omega)) ⟨by decide, by decide⟩ ⟨rfl, rfl⟩ [13, 14, 15, 16, 17, 18, 19, 20, 21, 22] (by decide) rfl rfl rfl rfl rfl (Nat.le_of_ble_eq_true rfl) ⟨by show _ ≤ (601024 : Nat); omega, by show _ ≤ (7293000 : Nat); omega⟩ d_LA_law_699) hP hD hS hA [13, 14, 15, 16, 17, 18, 19, 20, 21, 22] [0, 1, 2, 3, 4, 5, 6, 7, 8, 9, 10, 11, 12] [0, 1, 2, 3, 4, 5, 6, 7, 8, 9, 10, 11, 12, 13, 14, 15, 16, 17, 18, 19, 20, 21, 22] rfl (wr := (o, .inl (T 3, 1, .inr (.inl u9.2.2))) :: cmX T q n u9.2.1 x) rfl (by decide) (by decide) (fun _ => rfl) (by decide) (fun r u_ H locs hq699 hP hD hS => ?_)
    obtain ⟨hr2, hu2⟩ := hq699
    simp only [if_neg hc9] at hr2 hu2
    subst hr2
    subst hu2
    have hP : va_P D vwCl (laW T o u9.2.2 q n u9.2.1 x qm x (up y 31 (cst 1))) H := hP
    have hD : va_D A (laW T o u9.2.2 q n u9.2.1 x qm x (up y 31 (cst 1))) := hD
    refine lv_istore (lv' := [(6, .int (iI (0))), (5, .int (iI (1))), (4, .int (iI (j))), (1, .ref (q 0)), (2, .ref (qm 20)), (3, .ref (o)), (0, .ref (b))]) hx hb d_LA_law_702 hl (by decide) rfl (fun ls hl => ?_)
    refine lv_aload_n hx hb d_LA_law_704 rfl (lv_at hl 4 rfl) ?_
    refine cx_cI (ws2 := fun (_ : Unit) => laW T o u9.2.2 q n u9.2.1 x qm x (up y 31 (cst 1))) (cx_rV (q0 := 13) (ci := 5) (rest := []) (As := []) hx hb hml hown hT hK hN hP hD hl.1 tw_723 k_MO_thrown (c_MO_thrown l D T H.size qm n hn x (up y 31 (cst 1)) hX ) ⟨by decide, by decide⟩ ⟨rfl, rfl⟩ [13, 14, 15, 16, 17, 18, 19, 20, 21, 22] (by decide) rfl rfl rfl rfl rfl (Nat.le_of_ble_eq_true rfl) ⟨by show _ ≤ (601024 : Nat); omega, by show _ ≤ (7293000 : Nat); omega⟩ d_LA_law_705) hP hD hS hA [13, 14, 15, 16, 17, 18, 19, 20, 21, 22] [0, 1, 2, 3, 4, 5, 6, 7, 8, 9, 10, 11, 12] [0, 1, 2, 3, 4, 5, 6, 7, 8, 9, 10, 11, 12, 13, 14, 15, 16, 17, 18, 19, 20, 21, 22] rfl (wr := (o, .inl (T 3, 1, .inr (.inl u9.2.2))) :: cmX T q n u9.2.1 x) rfl (by decide) (by decide) (fun _ => rfl) (by decide) (fun r u_ H locs hq705 hP hD hS => ?_)
    subst hq705
    refine cx_eq (y := iI 1) (rfl) ?_
    refine lv_iload hx hb d_LA_law_708 (lv_at hl 1 rfl) ?_
    refine lv_icmp_eq (tgt := 715) hx hb d_LA_law_710 rfl (fun _ => ?_) (fun h0 => absurd rfl h0)
    refine lv_iload hx hb d_LA_law_715 (lv_at hl 1 rfl) ?_
    refine cx_if_ne (tgt := 732) hx hb d_LA_law_717 rfl (by omega) (fun _ => ?_) (fun h0 => absurd h0 (by decide))
    refine lv_goto (tgt := 815) hx hb d_LA_law_732 rfl ?_
    exact kk x (up y 31 (cst 1)) u9.2.1 u9.2.2 _ _ _ hX hP hD hS (lv_sub hl [2, 3, 4, 5, 6] rfl)

set_option maxHeartbeats 4000000 in
set_option maxRecDepth 100000 in
theorem law_11 (C0 : laC p l e s m meth c b L xs A D T n) (hn : 400 ≤ n ∧ n ≤ 2000) (j : Int) (hj : 1 ≤ j ∧ j + 5 ≤ L) (x y : SX) (d : Int → Int) (g : Nat → Int64) (hX : okX x) {H : Heap} {locs : List Loc} {ls : Array Slot} {cells slots : Nat} (hf9 : cells + 1 ≤ 601024 ∧ slots + 6 ≤ 7293000) (hP : va_P D vwCl (laW T o g q n d x qm x y) H) (hD : va_D A (laW T o g q n d x qm x y)) (hS : va_S A s.heap H locs) (hl : lv_has ls 8 (laL j q qm o b)) (kk : laK p l e s m below meth c b A D T q qm o n Q j (cells + 1) (slots + 6)) : W p l e room_1 s m #[Value.ref b] below meth c H locs cells slots Q (F0 m 735 ls []) := by
  obtain ⟨hx, hb, hml, hT, hown, hK, hN, hZ, hA, hXs, hbl, hbA, hlt, hL⟩ := C0
  have hl : lv_has ls 8 [(4, .int (iI (j))), (1, .ref (q 0)), (2, .ref (qm 20)), (3, .ref (o)), (0, .ref (b))] := hl
  have hv1 := sv_in xs (j + 1)
  have hv2 := sv_in xs (j + 2)
  have hv3 := sv_in xs (j + 3)
  have hv4 := sv_in xs (j + 4)
  refine lv_aload_n hx hb d_LA_law_735 rfl (lv_at hl 1 rfl) ?_
  refine lv_aload_n hx hb d_LA_law_736 rfl (lv_at hl 4 rfl) ?_
  refine lv_iload hx hb d_LA_law_737 (lv_at hl 0 rfl) ?_
  refine cx_iconst hx hb d_LA_law_739 ?_
  refine cx_iadd hx hb d_LA_law_740 ?_
  refine cx_sld hx hb hXs hbl hbA hS (by omega) (by omega) d_LA_law_741 ?_
  refine lv_aload_n hx hb d_LA_law_742 rfl (lv_at hl 3 rfl) ?_
  refine cx_cH (ws2 := fun (u9 : SX × (Int → Int) × (Nat → Int64)) => laW T o u9.2.2 q n u9.2.1 u9.1 qm x y) (cx_rH (rest := []) (As := [.ref (q 0), .int (iI (sv xs (j + 1))), .ref (o)]) hx hb hml hown hT hK hN hP hD hS hA hZ hl.1 tw_603 kh_LA_number (c_LA_number l D T H.size q n hn d x hX hlt o g (sv xs (j + 1)) (by omega)) ⟨by decide, by decide⟩ ⟨rfl, rfl⟩ [0, 1, 2, 3, 4, 5, 6, 7, 8, 9, 10, 11, 12] (by decide) rfl rfl rfl (Nat.le_of_ble_eq_true rfl) ⟨by show _ ≤ (601024 : Nat); omega, by show _ ≤ (7293000 : Nat); omega⟩ d_LA_law_743) hP hD hS hA [0, 1, 2, 3, 4, 5, 6, 7, 8, 9, 10, 11, 12] [13, 14, 15, 16, 17, 18, 19, 20, 21, 22] [10, 11, 12, 13, 14, 15, 16, 17, 18, 19, 20, 21, 22, 0, 1, 2, 3, 4, 5, 6, 7, 8, 9] rfl (wr := moX T qm n x y) rfl (by decide) (by decide) (fun _ => rfl) (by decide) (fun r9 u9 H locs hq9 hP hD hS => ?_)
  rcases hq9 with ⟨rfl, hc9, hu9, hg9⟩ | ⟨rfl, hc9, hu9⟩ | ⟨rfl, hc9, hu9⟩
  · rw [hu9] at hP hD
    have hP : va_P D vwCl (laW T o u9.2.2 q n u9.2.1 x qm x y) H := hP
    have hD : va_D A (laW T o u9.2.2 q n u9.2.1 x qm x y) := hD
    refine lv_istore (lv' := [(5, .int (iI (0))), (4, .int (iI (j))), (1, .ref (q 0)), (2, .ref (qm 20)), (3, .ref (o)), (0, .ref (b))]) hx hb d_LA_law_746 hl (by decide) rfl (fun ls hl => ?_)
    refine lv_aload_n hx hb d_LA_law_748 rfl (lv_at hl 3 rfl) ?_
    refine lv_aload_n hx hb d_LA_law_749 rfl (lv_at hl 5 rfl) ?_
    refine lv_iload hx hb d_LA_law_750 (lv_at hl 1 rfl) ?_
    refine cx_iconst hx hb d_LA_law_752 ?_
    refine cx_iadd hx hb d_LA_law_753 ?_
    refine cx_sld hx hb hXs hbl hbA hS (by omega) (by omega) d_LA_law_754 ?_
    refine cx_cL (ws2 := fun (u : SX × SX) => laW T o u9.2.2 q n u9.2.1 x qm u.1 u.2) (cx_rV (q0 := 13) (ci := 5) (rest := []) (As := [.int (iI (sv xs (j + 1)))]) hx hb hml hown hT hK hN hP hD hl.1 tw_910 k_MO_number (c_MO_number l D T H.size qm n hn x y hX (sv xs (j + 1)) (by omega)) ⟨by decide, by decide⟩ ⟨rfl, rfl⟩ [13, 14, 15, 16, 17, 18, 19, 20, 21, 22] (by decide) rfl rfl rfl rfl rfl (Nat.le_of_ble_eq_true rfl) ⟨by show _ ≤ (601024 : Nat); omega, by show _ ≤ (7293000 : Nat); omega⟩ d_LA_law_755) hP hD hS hA [13, 14, 15, 16, 17, 18, 19, 20, 21, 22] [0, 1, 2, 3, 4, 5, 6, 7, 8, 9, 10, 11, 12] [0, 1, 2, 3, 4, 5, 6, 7, 8, 9, 10, 11, 12, 13, 14, 15, 16, 17, 18, 19, 20, 21, 22] rfl (wr := (o, .inl (T 3, 1, .inr (.inl u9.2.2))) :: cmX T q n u9.2.1 x) rfl (by decide) (by decide) (fun _ => rfl) (by decide) (fun r u_ H locs hq755 hP hD hS => ?_)
    obtain ⟨hr2, hu2⟩ := hq755
    subst hr2
    subst hu2
    have hP : va_P D vwCl (laW T o u9.2.2 q n u9.2.1 x qm x (up y 31 (cst (nmT n (sv xs (j + 1)) x)))) H := hP
    have hD : va_D A (laW T o u9.2.2 q n u9.2.1 x qm x (up y 31 (cst (nmT n (sv xs (j + 1)) x)))) := hD
    refine lv_lstore (lv' := [(6, .long (nmV n (sv xs (j + 1)) x)), (5, .int (iI (0))), (4, .int (iI (j))), (1, .ref (q 0)), (2, .ref (qm 20)), (3, .ref (o)), (0, .ref (b))]) hx hb d_LA_law_758 hl (by decide) rfl (fun ls hl => ?_)
    refine lv_aload_n hx hb d_LA_law_760 rfl (lv_at hl 4 rfl) ?_
    refine cx_cI (ws2 := fun (_ : Unit) => laW T o u9.2.2 q n u9.2.1 x qm x (up y 31 (cst (nmT n (sv xs (j + 1)) x)))) (cx_rV (q0 := 13) (ci := 5) (rest := []) (As := []) hx hb hml hown hT hK hN hP hD hl.1 tw_723 k_MO_thrown (c_MO_thrown l D T H.size qm n hn x (up y 31 (cst (nmT n (sv xs (j + 1)) x))) hX ) ⟨by decide, by decide⟩ ⟨rfl, rfl⟩ [13, 14, 15, 16, 17, 18, 19, 20, 21, 22] (by decide) rfl rfl rfl rfl rfl (Nat.le_of_ble_eq_true rfl) ⟨by show _ ≤ (601024 : Nat); omega, by show _ ≤ (7293000 : Nat); omega⟩ d_LA_law_761) hP hD hS hA [13, 14, 15, 16, 17, 18, 19, 20, 21, 22] [0, 1, 2, 3, 4, 5, 6, 7, 8, 9, 10, 11, 12] [0, 1, 2, 3, 4, 5, 6, 7, 8, 9, 10, 11, 12, 13, 14, 15, 16, 17, 18, 19, 20, 21, 22] rfl (wr := (o, .inl (T 3, 1, .inr (.inl u9.2.2))) :: cmX T q n u9.2.1 x) rfl (by decide) (by decide) (fun _ => rfl) (by decide) (fun r u_ H locs hq761 hP hD hS => ?_)
    subst hq761
    refine cx_eq (y := iI 0) (by show iI (nmT n (sv xs (j + 1)) x) = _; rw [hc9]) ?_
    refine lv_iload hx hb d_LA_law_764 (lv_at hl 1 rfl) ?_
    refine lv_icmp_eq (tgt := 771) hx hb d_LA_law_766 rfl (fun _ => ?_) (fun h0 => absurd rfl h0)
    refine lv_iload hx hb d_LA_law_771 (lv_at hl 1 rfl) ?_
    refine cx_if_ne (tgt := 787) hx hb d_LA_law_773 rfl (by omega) (fun h0 => absurd h0 (by decide)) (fun _ => ?_)
    refine lv_aload_n hx hb d_LA_law_776 rfl (lv_at hl 5 rfl) ?_
    refine cx_iconst hx hb d_LA_law_777 ?_
    refine cx_lald hx hb hK hP 0 rfl d_LA_law_778 ?_
    refine lv_lload hx hb d_LA_law_779 (lv_at hl 0 rfl) ?_
    refine cx_lcmpE hx hb hg9 d_LA_law_781 ?_
    refine cx_if_eq (tgt := 787) hx hb d_LA_law_782 rfl (by omega) (fun _ => ?_) (fun h0 => absurd h0 (by decide))
    refine lv_goto (tgt := 815) hx hb d_LA_law_787 rfl ?_
    exact kk x (up y 31 (cst (nmT n (sv xs (j + 1)) x))) u9.2.1 u9.2.2 _ _ _ hX hP hD hS (lv_sub hl [2, 3, 4, 5, 6] rfl)
  · rw [hu9] at hP hD
    have hP : va_P D vwCl (laW T o u9.2.2 q n u9.2.1 x qm x y) H := hP
    have hD : va_D A (laW T o u9.2.2 q n u9.2.1 x qm x y) := hD
    refine lv_istore (lv' := [(5, .int (iI (1))), (4, .int (iI (j))), (1, .ref (q 0)), (2, .ref (qm 20)), (3, .ref (o)), (0, .ref (b))]) hx hb d_LA_law_746 hl (by decide) rfl (fun ls hl => ?_)
    refine lv_aload_n hx hb d_LA_law_748 rfl (lv_at hl 3 rfl) ?_
    refine lv_aload_n hx hb d_LA_law_749 rfl (lv_at hl 5 rfl) ?_
    refine lv_iload hx hb d_LA_law_750 (lv_at hl 1 rfl) ?_
    refine cx_iconst hx hb d_LA_law_752 ?_
    refine cx_iadd hx hb d_LA_law_753 ?_
    refine cx_sld hx hb hXs hbl hbA hS (by omega) (by omega) d_LA_law_754 ?_
    refine cx_cL (ws2 := fun (u : SX × SX) => laW T o u9.2.2 q n u9.2.1 x qm u.1 u.2) (cx_rV (q0 := 13) (ci := 5) (rest := []) (As := [.int (iI (sv xs (j + 1)))]) hx hb hml hown hT hK hN hP hD hl.1 tw_910 k_MO_number (c_MO_number l D T H.size qm n hn x y hX (sv xs (j + 1)) (by omega)) ⟨by decide, by decide⟩ ⟨rfl, rfl⟩ [13, 14, 15, 16, 17, 18, 19, 20, 21, 22] (by decide) rfl rfl rfl rfl rfl (Nat.le_of_ble_eq_true rfl) ⟨by show _ ≤ (601024 : Nat); omega, by show _ ≤ (7293000 : Nat); omega⟩ d_LA_law_755) hP hD hS hA [13, 14, 15, 16, 17, 18, 19, 20, 21, 22] [0, 1, 2, 3, 4, 5, 6, 7, 8, 9, 10, 11, 12] [0, 1, 2, 3, 4, 5, 6, 7, 8, 9, 10, 11, 12, 13, 14, 15, 16, 17, 18, 19, 20, 21, 22] rfl (wr := (o, .inl (T 3, 1, .inr (.inl u9.2.2))) :: cmX T q n u9.2.1 x) rfl (by decide) (by decide) (fun _ => rfl) (by decide) (fun r u_ H locs hq755 hP hD hS => ?_)
    obtain ⟨hr2, hu2⟩ := hq755
    subst hr2
    subst hu2
    have hP : va_P D vwCl (laW T o u9.2.2 q n u9.2.1 x qm x (up y 31 (cst (nmT n (sv xs (j + 1)) x)))) H := hP
    have hD : va_D A (laW T o u9.2.2 q n u9.2.1 x qm x (up y 31 (cst (nmT n (sv xs (j + 1)) x)))) := hD
    refine lv_lstore (lv' := [(6, .long (nmV n (sv xs (j + 1)) x)), (5, .int (iI (1))), (4, .int (iI (j))), (1, .ref (q 0)), (2, .ref (qm 20)), (3, .ref (o)), (0, .ref (b))]) hx hb d_LA_law_758 hl (by decide) rfl (fun ls hl => ?_)
    refine lv_aload_n hx hb d_LA_law_760 rfl (lv_at hl 4 rfl) ?_
    refine cx_cI (ws2 := fun (_ : Unit) => laW T o u9.2.2 q n u9.2.1 x qm x (up y 31 (cst (nmT n (sv xs (j + 1)) x)))) (cx_rV (q0 := 13) (ci := 5) (rest := []) (As := []) hx hb hml hown hT hK hN hP hD hl.1 tw_723 k_MO_thrown (c_MO_thrown l D T H.size qm n hn x (up y 31 (cst (nmT n (sv xs (j + 1)) x))) hX ) ⟨by decide, by decide⟩ ⟨rfl, rfl⟩ [13, 14, 15, 16, 17, 18, 19, 20, 21, 22] (by decide) rfl rfl rfl rfl rfl (Nat.le_of_ble_eq_true rfl) ⟨by show _ ≤ (601024 : Nat); omega, by show _ ≤ (7293000 : Nat); omega⟩ d_LA_law_761) hP hD hS hA [13, 14, 15, 16, 17, 18, 19, 20, 21, 22] [0, 1, 2, 3, 4, 5, 6, 7, 8, 9, 10, 11, 12] [0, 1, 2, 3, 4, 5, 6, 7, 8, 9, 10, 11, 12, 13, 14, 15, 16, 17, 18, 19, 20, 21, 22] rfl (wr := (o, .inl (T 3, 1, .inr (.inl u9.2.2))) :: cmX T q n u9.2.1 x) rfl (by decide) (by decide) (fun _ => rfl) (by decide) (fun r u_ H locs hq761 hP hD hS => ?_)
    subst hq761
    refine cx_eq (y := iI 1) (by show iI (nmT n (sv xs (j + 1)) x) = _; rw [hc9]) ?_
    refine lv_iload hx hb d_LA_law_764 (lv_at hl 1 rfl) ?_
    refine lv_icmp_eq (tgt := 771) hx hb d_LA_law_766 rfl (fun _ => ?_) (fun h0 => absurd rfl h0)
    refine lv_iload hx hb d_LA_law_771 (lv_at hl 1 rfl) ?_
    refine cx_if_ne (tgt := 787) hx hb d_LA_law_773 rfl (by omega) (fun _ => ?_) (fun h0 => absurd h0 (by decide))
    refine lv_goto (tgt := 815) hx hb d_LA_law_787 rfl ?_
    exact kk x (up y 31 (cst (nmT n (sv xs (j + 1)) x))) u9.2.1 u9.2.2 _ _ _ hX hP hD hS (lv_sub hl [2, 3, 4, 5, 6] rfl)
  · rw [hu9] at hP hD
    have hP : va_P D vwCl (laW T o u9.2.2 q n u9.2.1 x qm x y) H := hP
    have hD : va_D A (laW T o u9.2.2 q n u9.2.1 x qm x y) := hD
    refine lv_istore (lv' := [(5, .int (iI (2))), (4, .int (iI (j))), (1, .ref (q 0)), (2, .ref (qm 20)), (3, .ref (o)), (0, .ref (b))]) hx hb d_LA_law_746 hl (by decide) rfl (fun ls hl => ?_)
    refine lv_aload_n hx hb d_LA_law_748 rfl (lv_at hl 3 rfl) ?_
    refine lv_aload_n hx hb d_LA_law_749 rfl (lv_at hl 5 rfl) ?_
    refine lv_iload hx hb d_LA_law_750 (lv_at hl 1 rfl) ?_
    refine cx_iconst hx hb d_LA_law_752 ?_
    refine cx_iadd hx hb d_LA_law_753 ?_
    refine cx_sld hx hb hXs hbl hbA hS (by omega) (by omega) d_LA_law_754 ?_
    refine cx_cL (ws2 := fun (u : SX × SX) => laW T o u9.2.2 q n u9.2.1 x qm u.1 u.2) (cx_rV (q0 := 13) (ci := 5) (rest := []) (As := [.int (iI (sv xs (j + 1)))]) hx hb hml hown hT hK hN hP hD hl.1 tw_910 k_MO_number (c_MO_number l D T H.size qm n hn x y hX (sv xs (j + 1)) (by omega)) ⟨by decide, by decide⟩ ⟨rfl, rfl⟩ [13, 14, 15, 16, 17, 18, 19, 20, 21, 22] (by decide) rfl rfl rfl rfl rfl (Nat.le_of_ble_eq_true rfl) ⟨by show _ ≤ (601024 : Nat); omega, by show _ ≤ (7293000 : Nat); omega⟩ d_LA_law_755) hP hD hS hA [13, 14, 15, 16, 17, 18, 19, 20, 21, 22] [0, 1, 2, 3, 4, 5, 6, 7, 8, 9, 10, 11, 12] [0, 1, 2, 3, 4, 5, 6, 7, 8, 9, 10, 11, 12, 13, 14, 15, 16, 17, 18, 19, 20, 21, 22] rfl (wr := (o, .inl (T 3, 1, .inr (.inl u9.2.2))) :: cmX T q n u9.2.1 x) rfl (by decide) (by decide) (fun _ => rfl) (by decide) (fun r u_ H locs hq755 hP hD hS => ?_)
    obtain ⟨hr2, hu2⟩ := hq755
    subst hr2
    subst hu2
    have hP : va_P D vwCl (laW T o u9.2.2 q n u9.2.1 x qm x (up y 31 (cst (nmT n (sv xs (j + 1)) x)))) H := hP
    have hD : va_D A (laW T o u9.2.2 q n u9.2.1 x qm x (up y 31 (cst (nmT n (sv xs (j + 1)) x)))) := hD
    refine lv_lstore (lv' := [(6, .long (nmV n (sv xs (j + 1)) x)), (5, .int (iI (2))), (4, .int (iI (j))), (1, .ref (q 0)), (2, .ref (qm 20)), (3, .ref (o)), (0, .ref (b))]) hx hb d_LA_law_758 hl (by decide) rfl (fun ls hl => ?_)
    refine lv_aload_n hx hb d_LA_law_760 rfl (lv_at hl 4 rfl) ?_
    refine cx_cI (ws2 := fun (_ : Unit) => laW T o u9.2.2 q n u9.2.1 x qm x (up y 31 (cst (nmT n (sv xs (j + 1)) x)))) (cx_rV (q0 := 13) (ci := 5) (rest := []) (As := []) hx hb hml hown hT hK hN hP hD hl.1 tw_723 k_MO_thrown (c_MO_thrown l D T H.size qm n hn x (up y 31 (cst (nmT n (sv xs (j + 1)) x))) hX ) ⟨by decide, by decide⟩ ⟨rfl, rfl⟩ [13, 14, 15, 16, 17, 18, 19, 20, 21, 22] (by decide) rfl rfl rfl rfl rfl (Nat.le_of_ble_eq_true rfl) ⟨by show _ ≤ (601024 : Nat); omega, by show _ ≤ (7293000 : Nat); omega⟩ d_LA_law_761) hP hD hS hA [13, 14, 15, 16, 17, 18, 19, 20, 21, 22] [0, 1, 2, 3, 4, 5, 6, 7, 8, 9, 10, 11, 12] [0, 1, 2, 3, 4, 5, 6, 7, 8, 9, 10, 11, 12, 13, 14, 15, 16, 17, 18, 19, 20, 21, 22] rfl (wr := (o, .inl (T 3, 1, .inr (.inl u9.2.2))) :: cmX T q n u9.2.1 x) rfl (by decide) (by decide) (fun _ => rfl) (by decide) (fun r u_ H locs hq761 hP hD hS => ?_)
    subst hq761
    refine cx_eq (y := iI 2) (by show iI (nmT n (sv xs (j + 1)) x) = _; rw [hc9]) ?_
    refine lv_iload hx hb d_LA_law_764 (lv_at hl 1 rfl) ?_
    refine lv_icmp_eq (tgt := 771) hx hb d_LA_law_766 rfl (fun _ => ?_) (fun h0 => absurd rfl h0)
    refine lv_iload hx hb d_LA_law_771 (lv_at hl 1 rfl) ?_
    refine cx_if_ne (tgt := 787) hx hb d_LA_law_773 rfl (by omega) (fun _ => ?_) (fun h0 => absurd h0 (by decide))
    refine lv_goto (tgt := 815) hx hb d_LA_law_787 rfl ?_
    exact kk x (up y 31 (cst (nmT n (sv xs (j + 1)) x))) u9.2.1 u9.2.2 _ _ _ hX hP hD hS (lv_sub hl [2, 3, 4, 5, 6] rfl)

set_option maxHeartbeats 4000000 in
set_option maxRecDepth 100000 in
theorem law_12 (C0 : laC p l e s m meth c b L xs A D T n) (hn : 400 ≤ n ∧ n ≤ 2000) (j : Int) (hj : 1 ≤ j ∧ j + 5 ≤ L) (x y : SX) (d : Int → Int) (g : Nat → Int64) (hX : okX x) {H : Heap} {locs : List Loc} {ls : Array Slot} {cells slots : Nat} (hf9 : cells + 1 ≤ 601024 ∧ slots + 6 ≤ 7293000) (hP : va_P D vwCl (laW T o g q n d x qm x y) H) (hD : va_D A (laW T o g q n d x qm x y)) (hS : va_S A s.heap H locs) (hl : lv_has ls 8 (laL j q qm o b)) (kk : laK p l e s m below meth c b A D T q qm o n Q j (cells + 1) (slots + 6)) : W p l e room_1 s m #[Value.ref b] below meth c H locs cells slots Q (F0 m 790 ls []) := by
  obtain ⟨hx, hb, hml, hT, hown, hK, hN, hZ, hA, hXs, hbl, hbA, hlt, hL⟩ := C0
  have hl : lv_has ls 8 [(4, .int (iI (j))), (1, .ref (q 0)), (2, .ref (qm 20)), (3, .ref (o)), (0, .ref (b))] := hl
  have hv1 := sv_in xs (j + 1)
  have hv2 := sv_in xs (j + 2)
  have hv3 := sv_in xs (j + 3)
  have hv4 := sv_in xs (j + 4)
  refine lv_aload_n hx hb d_LA_law_790 rfl (lv_at hl 1 rfl) ?_
  refine lv_aload_n hx hb d_LA_law_791 rfl (lv_at hl 4 rfl) ?_
  refine lv_iload hx hb d_LA_law_792 (lv_at hl 0 rfl) ?_
  refine cx_iconst hx hb d_LA_law_794 ?_
  refine cx_iadd hx hb d_LA_law_795 ?_
  refine cx_sld hx hb hXs hbl hbA hS (by omega) (by omega) d_LA_law_796 ?_
  refine cx_cI (ws2 := fun (_ : Unit) => laW T o g q n d x qm x y) (cx_rV (q0 := 1) (ci := 4) (rest := []) (As := [.int (iI (sv xs (j + 1)))]) hx hb hml hown hT hK hN hP hD hl.1 tw_175 k_CM_count (c_CM_count l D T H.size q n hn d x hX (sv xs (j + 1)) (by omega)) ⟨by decide, by decide⟩ ⟨rfl, rfl⟩ [1, 2, 3, 4, 5, 6, 7, 8, 9, 10, 11, 12] (by decide) rfl rfl rfl rfl rfl (Nat.le_of_ble_eq_true rfl) ⟨by show _ ≤ (601024 : Nat); omega, by show _ ≤ (7293000 : Nat); omega⟩ d_LA_law_797) hP hD hS hA [1, 2, 3, 4, 5, 6, 7, 8, 9, 10, 11, 12] [0, 13, 14, 15, 16, 17, 18, 19, 20, 21, 22] [0, 11, 12, 13, 14, 15, 16, 17, 18, 19, 20, 21, 22, 1, 2, 3, 4, 5, 6, 7, 8, 9, 10] rfl (wr := (o, .inl (T 3, 1, .inr (.inl g))) :: moX T qm n x y) rfl (by decide) (by decide) (fun _ => rfl) (by decide) (fun r u_ H locs hq797 hP hD hS => ?_)
  subst hq797
  refine lv_aload_n hx hb d_LA_law_800 rfl (lv_at hl 2 rfl) ?_
  refine lv_aload_n hx hb d_LA_law_801 rfl (lv_at hl 4 rfl) ?_
  refine lv_iload hx hb d_LA_law_802 (lv_at hl 0 rfl) ?_
  refine cx_iconst hx hb d_LA_law_804 ?_
  refine cx_iadd hx hb d_LA_law_805 ?_
  refine cx_sld hx hb hXs hbl hbA hS (by omega) (by omega) d_LA_law_806 ?_
  refine cx_cI (ws2 := fun (u : SX × SX) => laW T o g q n d x qm u.1 u.2) (cx_rV (q0 := 13) (ci := 5) (rest := [.int (iI (cntS n (sv xs (j + 1)) x))]) (As := [.int (iI (sv xs (j + 1)))]) hx hb hml hown hT hK hN hP hD hl.1 tw_915 k_MO_count (c_MO_count l D T H.size qm n hn x y hX (sv xs (j + 1)) (by omega)) ⟨by decide, by decide⟩ ⟨rfl, rfl⟩ [13, 14, 15, 16, 17, 18, 19, 20, 21, 22] (by decide) rfl rfl rfl rfl rfl (Nat.le_of_ble_eq_true rfl) ⟨by show _ ≤ (601024 : Nat); omega, by show _ ≤ (7293000 : Nat); omega⟩ d_LA_law_807) hP hD hS hA [13, 14, 15, 16, 17, 18, 19, 20, 21, 22] [0, 1, 2, 3, 4, 5, 6, 7, 8, 9, 10, 11, 12] [0, 1, 2, 3, 4, 5, 6, 7, 8, 9, 10, 11, 12, 13, 14, 15, 16, 17, 18, 19, 20, 21, 22] rfl (wr := (o, .inl (T 3, 1, .inr (.inl g))) :: cmX T q n d x) rfl (by decide) (by decide) (fun _ => rfl) (by decide) (fun r u_ H locs hq807 hP hD hS => ?_)
  obtain ⟨hr2, hu2⟩ := hq807
  subst hr2
  subst hu2
  have hP : va_P D vwCl (laW T o g q n d x qm x (up y 31 (cst 0))) H := hP
  have hD : va_D A (laW T o g q n d x qm x (up y 31 (cst 0))) := hD
  refine lv_icmp_eq (tgt := 815) hx hb d_LA_law_810 rfl (fun _ => ?_) (fun h0 => absurd rfl h0)
  exact W.widen (k := cells + 1) (n := slots + 6) (by omega) (by omega) (kk x (up y 31 (cst 0)) d g _ _ _ hX hP hD hS (lv_sub hl [0, 1, 2, 3, 4] rfl))
end LAW
