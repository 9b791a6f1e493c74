/-! the reference: may -/
set_option maxHeartbeats 4000000 in
set_option maxRecDepth 100000 in
theorem c_MO_may (l : Launch) (D : va_G) (T : Nat → ClassId) (sz : Nat) (z : Int) (hz : 0 ≤ z ∧ z < 64) (k : Int) (hk : -2147483648 ≤ k ∧ k < 2147483648) : MI l y_MO_may (wY y_MO_may b_MO_may 3 (some .boolean)) (rmK 1) D vwCl (tyL T) nwL sz [.int (iI (z)), .int (iI (k))] (([] : va_W)) (fun r (_ : Unit) => (r = iI 1 ∧ (alP z k)) ∨ (r = iI 0 ∧ (¬ alP z k))) (fun _ => ([] : va_W)) := by
  refine cx_inZ (by decide) rfl (Nat.le_of_ble_eq_true rfl) ?_
  intro p e s m below meth cd ls A Q hx hb hml hT hown hret hP hK hD hN hS hA hl
  have hown : s.vm.findClass R_MO = some m.cls := hown
  have hl : lv_has ls 3 [(0, .int (iI (z))), (1, .int (iI (k)))] := hl
  have J21 : ∀ v21 : Int, ((v21 = 1 ∧ (k = 1 ∨ k = 4 ∨ k = 7)) ∨ (v21 = 0 ∧ ¬ (k = 1 ∨ k = 4 ∨ k = 7))) → W p l e (rmK 1) s m ([.int (iI (z)), .int (iI (k))] : List Value).toArray below meth cd s.heap [] 0 0 Q (F0 m 21 ls [.int (iI v21)]) := by
    intro v21 hv21
    refine lv_istore_n (lv' := [(2, .int (iI (v21))), (0, .int (iI (z))), (1, .int (iI (k)))]) hx hb d_MO_may_21 rfl hl (by decide) rfl (fun ls hl => ?_)
    refine lv_iload_n hx hb d_MO_may_22 rfl (lv_at hl 1 rfl) ?_
    refine cx_cI (ws2 := fun _ => ([] : va_W)) (cx_rS (rest := []) (As := [.int (iI (z))]) hx hb hml hown hT hK hN hP hD hl.1 tw_768 k_MO_isArithmetic (c_MO_isArithmetic l D T s.heap.size z (by omega)) ⟨by decide, by decide⟩ ⟨rfl, rfl⟩ [] (by decide) rfl rfl rfl (Nat.le_of_ble_eq_true rfl) ⟨Nat.zero_le _, Nat.zero_le _⟩ d_MO_may_23) hP hD hS hA [] [] [] rfl (wr := []) rfl (by decide) (by decide) (fun _ => rfl) (by decide) (fun r u_ H locs hq23 hP hD hS => ?_)
    rcases hq23 with ⟨rfl, h23⟩ | ⟨rfl, h23⟩
    · refine cx_if_ne (tgt := 83) hx hb d_MO_may_26 rfl (by omega) (fun _ => ?_) (fun h0 => absurd h0 (by decide))
      rcases hv21 with ⟨rfl, h21⟩ | ⟨rfl, h21⟩
      · refine lv_iload_n hx hb d_MO_may_83 rfl (lv_at hl 0 rfl) ?_
        exact hret () (Or.inr rfl) (Or.inl ⟨rfl, by rcases h23 with rfl | rfl | rfl | rfl <;> (unfold alP alv; simp <;> omega)⟩) hP hD hS d_MO_may_84
      · refine lv_iload_n hx hb d_MO_may_83 rfl (lv_at hl 0 rfl) ?_
        exact hret () (Or.inl rfl) (Or.inr ⟨rfl, by rcases h23 with rfl | rfl | rfl | rfl <;> (unfold alP alv; simp <;> omega)⟩) hP hD hS d_MO_may_84
    · refine cx_if_ne (tgt := 83) hx hb d_MO_may_26 rfl (by omega) (fun h0 => absurd h0 (by decide)) (fun _ => ?_)
      refine lv_iload_n hx hb d_MO_may_29 rfl (lv_at hl 1 rfl) ?_
      refine cx_bipush hx hb d_MO_may_30 rfl ?_
      refine cx_icmp_eq (tgt := 83) hx hb d_MO_may_32 rfl (by omega) (by omega) (fun h32 => ?_) (fun h32 => ?_)
      · rcases hv21 with ⟨rfl, h21⟩ | ⟨rfl, h21⟩
        · refine lv_iload_n hx hb d_MO_may_83 rfl (lv_at hl 0 rfl) ?_
          exact hret () (Or.inr rfl) (Or.inl ⟨rfl, by rcases h32 with rfl <;> (unfold alP alv; simp <;> omega)⟩) hP hD hS d_MO_may_84
        · refine lv_iload_n hx hb d_MO_may_83 rfl (lv_at hl 0 rfl) ?_
          exact hret () (Or.inl rfl) (Or.inr ⟨rfl, by rcases h32 with rfl <;> (unfold alP alv; simp <;> omega)⟩) hP hD hS d_MO_may_84
      · refine lv_iload_n hx hb d_MO_may_35 rfl (lv_at hl 1 rfl) ?_
        refine cx_bipush hx hb d_MO_may_36 rfl ?_
        refine cx_icmp_eq (tgt := 83) hx hb d_MO_may_38 rfl (by omega) (by omega) (fun h38 => ?_) (fun h38 => ?_)
        · rcases hv21 with ⟨rfl, h21⟩ | ⟨rfl, h21⟩
          · refine lv_iload_n hx hb d_MO_may_83 rfl (lv_at hl 0 rfl) ?_
            exact hret () (Or.inr rfl) (Or.inl ⟨rfl, by rcases h38 with rfl <;> (unfold alP alv; simp <;> omega)⟩) hP hD hS d_MO_may_84
          · refine lv_iload_n hx hb d_MO_may_83 rfl (lv_at hl 0 rfl) ?_
            exact hret () (Or.inl rfl) (Or.inr ⟨rfl, by rcases h38 with rfl <;> (unfold alP alv; simp <;> omega)⟩) hP hD hS d_MO_may_84
        · refine lv_iload_n hx hb d_MO_may_41 rfl (lv_at hl 1 rfl) ?_
          refine cx_bipush hx hb d_MO_may_42 rfl ?_
          refine cx_icmp_eq (tgt := 83) hx hb d_MO_may_44 rfl (by omega) (by omega) (fun h44 => ?_) (fun h44 => ?_)
          · rcases hv21 with ⟨rfl, h21⟩ | ⟨rfl, h21⟩
            · refine lv_iload_n hx hb d_MO_may_83 rfl (lv_at hl 0 rfl) ?_
              exact hret () (Or.inr rfl) (Or.inl ⟨rfl, by rcases h44 with rfl <;> (unfold alP alv; simp <;> omega)⟩) hP hD hS d_MO_may_84
            · refine lv_iload_n hx hb d_MO_may_83 rfl (lv_at hl 0 rfl) ?_
              exact hret () (Or.inl rfl) (Or.inr ⟨rfl, by rcases h44 with rfl <;> (unfold alP alv; simp <;> omega)⟩) hP hD hS d_MO_may_84
          · refine lv_iload_n hx hb d_MO_may_47 rfl (lv_at hl 1 rfl) ?_
            refine cx_bipush hx hb d_MO_may_48 rfl ?_
            refine cx_icmp_eq (tgt := 83) hx hb d_MO_may_50 rfl (by omega) (by omega) (fun h50 => ?_) (fun h50 => ?_)
            · rcases hv21 with ⟨rfl, h21⟩ | ⟨rfl, h21⟩
              · refine lv_iload_n hx hb d_MO_may_83 rfl (lv_at hl 0 rfl) ?_
                exact hret () (Or.inr rfl) (Or.inl ⟨rfl, by rcases h50 with rfl <;> (unfold alP alv; simp <;> omega)⟩) hP hD hS d_MO_may_84
              · refine lv_iload_n hx hb d_MO_may_83 rfl (lv_at hl 0 rfl) ?_
                exact hret () (Or.inl rfl) (Or.inr ⟨rfl, by rcases h50 with rfl <;> (unfold alP alv; simp <;> omega)⟩) hP hD hS d_MO_may_84
            · refine lv_iload_n hx hb d_MO_may_53 rfl (lv_at hl 1 rfl) ?_
              refine cx_bipush hx hb d_MO_may_54 rfl ?_
              refine cx_icmp_eq (tgt := 83) hx hb d_MO_may_56 rfl (by omega) (by omega) (fun h56 => ?_) (fun h56 => ?_)
              · rcases hv21 with ⟨rfl, h21⟩ | ⟨rfl, h21⟩
                · refine lv_iload_n hx hb d_MO_may_83 rfl (lv_at hl 0 rfl) ?_
                  exact hret () (Or.inr rfl) (Or.inl ⟨rfl, by rcases h56 with rfl <;> (unfold alP alv; simp <;> omega)⟩) hP hD hS d_MO_may_84
                · refine lv_iload_n hx hb d_MO_may_83 rfl (lv_at hl 0 rfl) ?_
                  exact hret () (Or.inl rfl) (Or.inr ⟨rfl, by rcases h56 with rfl <;> (unfold alP alv; simp <;> omega)⟩) hP hD hS d_MO_may_84
              · refine lv_iload_n hx hb d_MO_may_59 rfl (lv_at hl 1 rfl) ?_
                refine cx_bipush hx hb d_MO_may_60 rfl ?_
                refine cx_icmp_eq (tgt := 83) hx hb d_MO_may_62 rfl (by omega) (by omega) (fun h62 => ?_) (fun h62 => ?_)
                · rcases hv21 with ⟨rfl, h21⟩ | ⟨rfl, h21⟩
                  · refine lv_iload_n hx hb d_MO_may_83 rfl (lv_at hl 0 rfl) ?_
                    exact hret () (Or.inr rfl) (Or.inl ⟨rfl, by rcases h62 with rfl <;> (unfold alP alv; simp <;> omega)⟩) hP hD hS d_MO_may_84
                  · refine lv_iload_n hx hb d_MO_may_83 rfl (lv_at hl 0 rfl) ?_
                    exact hret () (Or.inl rfl) (Or.inr ⟨rfl, by rcases h62 with rfl <;> (unfold alP alv; simp <;> omega)⟩) hP hD hS d_MO_may_84
                · refine lv_iload_n hx hb d_MO_may_65 rfl (lv_at hl 1 rfl) ?_
                  refine cx_bipush hx hb d_MO_may_66 rfl ?_
                  refine cx_icmp_eq (tgt := 83) hx hb d_MO_may_68 rfl (by omega) (by omega) (fun h68 => ?_) (fun h68 => ?_)
                  · rcases hv21 with ⟨rfl, h21⟩ | ⟨rfl, h21⟩
                    · refine lv_iload_n hx hb d_MO_may_83 rfl (lv_at hl 0 rfl) ?_
                      exact hret () (Or.inr rfl) (Or.inl ⟨rfl, by rcases h68 with rfl <;> (unfold alP alv; simp <;> omega)⟩) hP hD hS d_MO_may_84
                    · refine lv_iload_n hx hb d_MO_may_83 rfl (lv_at hl 0 rfl) ?_
                      exact hret () (Or.inl rfl) (Or.inr ⟨rfl, by rcases h68 with rfl <;> (unfold alP alv; simp <;> omega)⟩) hP hD hS d_MO_may_84
                  · refine lv_iload_n hx hb d_MO_may_71 rfl (lv_at hl 1 rfl) ?_
                    refine cx_bipush hx hb d_MO_may_72 rfl ?_
                    refine cx_icmp_eq (tgt := 83) hx hb d_MO_may_74 rfl (by omega) (by omega) (fun h74 => ?_) (fun h74 => ?_)
                    · rcases hv21 with ⟨rfl, h21⟩ | ⟨rfl, h21⟩
                      · refine lv_iload_n hx hb d_MO_may_83 rfl (lv_at hl 0 rfl) ?_
                        exact hret () (Or.inr rfl) (Or.inl ⟨rfl, by rcases h74 with rfl <;> (unfold alP alv; simp <;> omega)⟩) hP hD hS d_MO_may_84
                      · refine lv_iload_n hx hb d_MO_may_83 rfl (lv_at hl 0 rfl) ?_
                        exact hret () (Or.inl rfl) (Or.inr ⟨rfl, by rcases h74 with rfl <;> (unfold alP alv; simp <;> omega)⟩) hP hD hS d_MO_may_84
                    · refine lv_iload_n hx hb d_MO_may_77 rfl (lv_at hl 1 rfl) ?_
                      refine cx_bipush hx hb d_MO_may_78 rfl ?_
                      refine cx_icmp_ne (tgt := 85) hx hb d_MO_may_80 rfl (by omega) (by omega) (fun h80 => ?_) (fun h80 => ?_)
                      · refine lv_iload_n hx hb d_MO_may_85 rfl (lv_at hl 1 rfl) ?_
                        obtain ⟨k9, hk9⟩ : ∃ k : Fin 64, z = (k.val : Int) := fin64 (by omega)
                        by_cases hs168 : z = 50
                        · refine cx_lsw (tgt := 168) (off := 82) hx hb d_MO_may_86 (by omega) (by rw [hk9]; exact sw_may_168 k9 (by rw [← hk9]; exact hs168)) rfl ?_
                          refine lv_iload_n hx hb d_MO_may_168 rfl (lv_at hl 2 rfl) ?_
                          refine cx_iconst hx hb d_MO_may_169 ?_
                          refine cx_icmp_eq (tgt := 189) hx hb d_MO_may_170 rfl (by omega) (by omega) (fun h170 => ?_) (fun h170 => ?_)
                          · refine cx_iconst hx hb d_MO_may_189 ?_
                            refine lv_goto (tgt := 194) hx hb d_MO_may_190 rfl ?_
                            exact hret () (Or.inr rfl) (Or.inl ⟨rfl, by rcases hs168 with rfl <;> (unfold alP alv; simp <;> omega)⟩) hP hD hS d_MO_may_194
                          · refine lv_iload_n hx hb d_MO_may_173 rfl (lv_at hl 2 rfl) ?_
                            refine cx_iconst hx hb d_MO_may_174 ?_
                            refine cx_icmp_eq (tgt := 189) hx hb d_MO_may_175 rfl (by omega) (by omega) (fun h175 => ?_) (fun h175 => ?_)
                            · refine cx_iconst hx hb d_MO_may_189 ?_
                              refine lv_goto (tgt := 194) hx hb d_MO_may_190 rfl ?_
                              exact hret () (Or.inr rfl) (Or.inl ⟨rfl, by rcases hs168 with rfl <;> (unfold alP alv; simp <;> omega)⟩) hP hD hS d_MO_may_194
                            · refine lv_iload_n hx hb d_MO_may_178 rfl (lv_at hl 2 rfl) ?_
                              refine cx_iconst hx hb d_MO_may_179 ?_
                              refine cx_icmp_eq (tgt := 189) hx hb d_MO_may_180 rfl (by omega) (by omega) (fun h180 => ?_) (fun h180 => ?_)
                              · refine cx_iconst hx hb d_MO_may_189 ?_
                                refine lv_goto (tgt := 194) hx hb d_MO_may_190 rfl ?_
                                exact hret () (Or.inr rfl) (Or.inl ⟨rfl, by rcases hs168 with rfl <;> (unfold alP alv; simp <;> omega)⟩) hP hD hS d_MO_may_194
                              · refine lv_iload_n hx hb d_MO_may_183 rfl (lv_at hl 2 rfl) ?_
                                refine cx_bipush hx hb d_MO_may_184 rfl ?_
                                refine cx_icmp_ne (tgt := 193) hx hb d_MO_may_186 rfl (by omega) (by omega) (fun h186 => ?_) (fun h186 => ?_)
                                · refine cx_iconst hx hb d_MO_may_193 ?_
                                  exact hret () (Or.inl rfl) (Or.inr ⟨rfl, by rcases hs168 with rfl <;> (unfold alP alv; simp <;> omega)⟩) hP hD hS d_MO_may_194
                                · refine cx_iconst hx hb d_MO_may_189 ?_
                                  refine lv_goto (tgt := 194) hx hb d_MO_may_190 rfl ?_
                                  exact hret () (Or.inr rfl) (Or.inl ⟨rfl, by rcases hs168 with rfl <;> (unfold alP alv; simp <;> omega)⟩) hP hD hS d_MO_may_194
                        by_cases hs195 : z = 21
                        · refine cx_lsw (tgt := 195) (off := 109) hx hb d_MO_may_86 (by omega) (by rw [hk9]; exact sw_may_195 k9 (by rw [← hk9]; exact hs195)) rfl ?_
                          refine lv_iload_n hx hb d_MO_may_195 rfl (lv_at hl 2 rfl) ?_
                          refine cx_bipush hx hb d_MO_may_196 rfl ?_
                          refine cx_icmp_ne (tgt := 205) hx hb d_MO_may_198 rfl (by omega) (by omega) (fun h198 => ?_) (fun h198 => ?_)
                          · refine cx_iconst hx hb d_MO_may_205 ?_
                            exact hret () (Or.inl rfl) (Or.inr ⟨rfl, by rcases hs195 with rfl <;> (unfold alP alv; simp <;> omega)⟩) hP hD hS d_MO_may_206
                          · refine cx_iconst hx hb d_MO_may_201 ?_
                            refine lv_goto (tgt := 206) hx hb d_MO_may_202 rfl ?_
                            exact hret () (Or.inr rfl) (Or.inl ⟨rfl, by rcases hs195 with rfl <;> (unfold alP alv; simp <;> omega)⟩) hP hD hS d_MO_may_206
                        by_cases hs207 : z = 1 ∨ z = 2 ∨ z = 4
                        · refine cx_lsw (tgt := 207) (off := 121) hx hb d_MO_may_86 (by omega) (by rw [hk9]; exact sw_may_207 k9 (by rw [← hk9]; exact hs207)) rfl ?_
                          refine lv_iload_n hx hb d_MO_may_207 rfl (lv_at hl 2 rfl) ?_
                          refine cx_iconst hx hb d_MO_may_208 ?_
                          refine cx_icmp_eq (tgt := 227) hx hb d_MO_may_209 rfl (by omega) (by omega) (fun h209 => ?_) (fun h209 => ?_)
                          · refine cx_iconst hx hb d_MO_may_227 ?_
                            refine lv_goto (tgt := 232) hx hb d_MO_may_228 rfl ?_
                            exact hret () (Or.inr rfl) (Or.inl ⟨rfl, by rcases hs207 with rfl | rfl | rfl <;> (unfold alP alv; simp <;> omega)⟩) hP hD hS d_MO_may_232
                          · refine lv_iload_n hx hb d_MO_may_212 rfl (lv_at hl 2 rfl) ?_
                            refine cx_iconst hx hb d_MO_may_213 ?_
                            refine cx_icmp_eq (tgt := 227) hx hb d_MO_may_214 rfl (by omega) (by omega) (fun h214 => ?_) (fun h214 => ?_)
                            · refine cx_iconst hx hb d_MO_may_227 ?_
                              refine lv_goto (tgt := 232) hx hb d_MO_may_228 rfl ?_
                              exact hret () (Or.inr rfl) (Or.inl ⟨rfl, by rcases hs207 with rfl | rfl | rfl <;> (unfold alP alv; simp <;> omega)⟩) hP hD hS d_MO_may_232
                            · refine lv_iload_n hx hb d_MO_may_217 rfl (lv_at hl 2 rfl) ?_
                              refine cx_iconst hx hb d_MO_may_218 ?_
                              refine cx_icmp_eq (tgt := 227) hx hb d_MO_may_219 rfl (by omega) (by omega) (fun h219 => ?_) (fun h219 => ?_)
                              · refine cx_iconst hx hb d_MO_may_227 ?_
                                refine lv_goto (tgt := 232) hx hb d_MO_may_228 rfl ?_
                                exact hret () (Or.inr rfl) (Or.inl ⟨rfl, by rcases hs207 with rfl | rfl | rfl <;> (unfold alP alv; simp <;> omega)⟩) hP hD hS d_MO_may_232
                              · refine lv_iload_n hx hb d_MO_may_222 rfl (lv_at hl 2 rfl) ?_
                                refine cx_iconst hx hb d_MO_may_223 ?_
                                refine cx_icmp_ne (tgt := 231) hx hb d_MO_may_224 rfl (by omega) (by omega) (fun h224 => ?_) (fun h224 => ?_)
                                · refine cx_iconst hx hb d_MO_may_231 ?_
                                  exact hret () (Or.inl rfl) (Or.inr ⟨rfl, by rcases hs207 with rfl | rfl | rfl <;> (unfold alP alv; simp <;> omega)⟩) hP hD hS d_MO_may_232
                                · refine cx_iconst hx hb d_MO_may_227 ?_
                                  refine lv_goto (tgt := 232) hx hb d_MO_may_228 rfl ?_
                                  exact hret () (Or.inr rfl) (Or.inl ⟨rfl, by rcases hs207 with rfl | rfl | rfl <;> (unfold alP alv; simp <;> omega)⟩) hP hD hS d_MO_may_232
                        by_cases hs233 : z = 40 ∨ z = 56
                        · refine cx_lsw (tgt := 233) (off := 147) hx hb d_MO_may_86 (by omega) (by rw [hk9]; exact sw_may_233 k9 (by rw [← hk9]; exact hs233)) rfl ?_
                          refine lv_iload_n hx hb d_MO_may_233 rfl (lv_at hl 2 rfl) ?_
                          refine cx_iconst hx hb d_MO_may_234 ?_
                          refine cx_icmp_ne (tgt := 242) hx hb d_MO_may_235 rfl (by omega) (by omega) (fun h235 => ?_) (fun h235 => ?_)
                          · refine cx_iconst hx hb d_MO_may_242 ?_
                            exact hret () (Or.inl rfl) (Or.inr ⟨rfl, by rcases hs233 with rfl | rfl <;> (unfold alP alv; simp <;> omega)⟩) hP hD hS d_MO_may_243
                          · refine cx_iconst hx hb d_MO_may_238 ?_
                            refine lv_goto (tgt := 243) hx hb d_MO_may_239 rfl ?_
                            exact hret () (Or.inr rfl) (Or.inl ⟨rfl, by rcases hs233 with rfl | rfl <;> (unfold alP alv; simp <;> omega)⟩) hP hD hS d_MO_may_243
                        by_cases hs244 : z = 37
                        · refine cx_lsw (tgt := 244) (off := 158) hx hb d_MO_may_86 (by omega) (by rw [hk9]; exact sw_may_244 k9 (by rw [← hk9]; exact hs244)) rfl ?_
                          refine lv_iload_n hx hb d_MO_may_244 rfl (lv_at hl 0 rfl) ?_
                          refine cx_if_ne (tgt := 264) hx hb d_MO_may_245 rfl (by omega) (fun h245 => ?_) (fun h245 => ?_)
                          · refine cx_iconst hx hb d_MO_may_264 ?_
                            refine lv_goto (tgt := 269) hx hb d_MO_may_265 rfl ?_
                            exact hret () (Or.inr rfl) (Or.inl ⟨rfl, by rcases hs244 with rfl <;> (unfold alP alv; simp <;> omega)⟩) hP hD hS d_MO_may_269
                          · refine lv_iload_n hx hb d_MO_may_248 rfl (lv_at hl 2 rfl) ?_
                            refine cx_iconst hx hb d_MO_may_249 ?_
                            refine cx_icmp_eq (tgt := 264) hx hb d_MO_may_250 rfl (by omega) (by omega) (fun h250 => ?_) (fun h250 => ?_)
                            · refine cx_iconst hx hb d_MO_may_264 ?_
                              refine lv_goto (tgt := 269) hx hb d_MO_may_265 rfl ?_
                              exact hret () (Or.inr rfl) (Or.inl ⟨rfl, by rcases hs244 with rfl <;> (unfold alP alv; simp <;> omega)⟩) hP hD hS d_MO_may_269
                            · refine lv_iload_n hx hb d_MO_may_253 rfl (lv_at hl 2 rfl) ?_
                              refine cx_iconst hx hb d_MO_may_254 ?_
                              refine cx_icmp_eq (tgt := 264) hx hb d_MO_may_255 rfl (by omega) (by omega) (fun h255 => ?_) (fun h255 => ?_)
                              · refine cx_iconst hx hb d_MO_may_264 ?_
                                refine lv_goto (tgt := 269) hx hb d_MO_may_265 rfl ?_
                                exact hret () (Or.inr rfl) (Or.inl ⟨rfl, by rcases hs244 with rfl <;> (unfold alP alv; simp <;> omega)⟩) hP hD hS d_MO_may_269
                              · refine lv_iload_n hx hb d_MO_may_258 rfl (lv_at hl 2 rfl) ?_
                                refine cx_bipush hx hb d_MO_may_259 rfl ?_
                                refine cx_icmp_ne (tgt := 268) hx hb d_MO_may_261 rfl (by omega) (by omega) (fun h261 => ?_) (fun h261 => ?_)
                                · refine cx_iconst hx hb d_MO_may_268 ?_
                                  exact hret () (Or.inl rfl) (Or.inr ⟨rfl, by rcases hs244 with rfl <;> (unfold alP alv; simp <;> omega)⟩) hP hD hS d_MO_may_269
                                · refine cx_iconst hx hb d_MO_may_264 ?_
                                  refine lv_goto (tgt := 269) hx hb d_MO_may_265 rfl ?_
                                  exact hret () (Or.inr rfl) (Or.inl ⟨rfl, by rcases hs244 with rfl <;> (unfold alP alv; simp <;> omega)⟩) hP hD hS d_MO_may_269
                        by_cases hs270 : z = 59
                        · refine cx_lsw (tgt := 270) (off := 184) hx hb d_MO_may_86 (by omega) (by rw [hk9]; exact sw_may_270 k9 (by rw [← hk9]; exact hs270)) rfl ?_
                          refine lv_iload_n hx hb d_MO_may_270 rfl (lv_at hl 2 rfl) ?_
                          refine cx_iconst hx hb d_MO_may_271 ?_
                          refine cx_icmp_eq (tgt := 280) hx hb d_MO_may_272 rfl (by omega) (by omega) (fun h272 => ?_) (fun h272 => ?_)
                          · refine cx_iconst hx hb d_MO_may_280 ?_
                            refine lv_goto (tgt := 285) hx hb d_MO_may_281 rfl ?_
                            exact hret () (Or.inr rfl) (Or.inl ⟨rfl, by rcases hs270 with rfl <;> (unfold alP alv; simp <;> omega)⟩) hP hD hS d_MO_may_285
                          · refine lv_iload_n hx hb d_MO_may_275 rfl (lv_at hl 2 rfl) ?_
                            refine cx_iconst hx hb d_MO_may_276 ?_
                            refine cx_icmp_ne (tgt := 284) hx hb d_MO_may_277 rfl (by omega) (by omega) (fun h277 => ?_) (fun h277 => ?_)
                            · refine cx_iconst hx hb d_MO_may_284 ?_
                              exact hret () (Or.inl rfl) (Or.inr ⟨rfl, by rcases hs270 with rfl <;> (unfold alP alv; simp <;> omega)⟩) hP hD hS d_MO_may_285
                            · refine cx_iconst hx hb d_MO_may_280 ?_
                              refine lv_goto (tgt := 285) hx hb d_MO_may_281 rfl ?_
                              exact hret () (Or.inr rfl) (Or.inl ⟨rfl, by rcases hs270 with rfl <;> (unfold alP alv; simp <;> omega)⟩) hP hD hS d_MO_may_285
                        refine cx_lsw (tgt := 286) (off := 200) hx hb d_MO_may_86 (by omega) (by rw [hk9]; exact sw_may_d k9 (fun h9 => by rw [← hk9] at h9; rcases h9 with h9 | h9 | h9 | h9 | h9 | h9 | h9 | h9 | h9 <;> omega)) rfl ?_
                        refine cx_iconst hx hb d_MO_may_286 ?_
                        exact hret () (Or.inl rfl) (Or.inr ⟨rfl, fun h => by unfold alP alv at h; rcases h with ⟨rfl | rfl | rfl | rfl | rfl | rfl | rfl | rfl | rfl | rfl | rfl | rfl | rfl, -⟩ | ⟨rfl, -⟩ | ⟨rfl, -⟩ | ⟨rfl | rfl | rfl, -⟩ | ⟨rfl | rfl, -⟩ | ⟨rfl, -⟩ | ⟨rfl, -⟩ <;> omega⟩) hP hD hS d_MO_may_287
                      · rcases hv21 with ⟨rfl, h21⟩ | ⟨rfl, h21⟩
                        · refine lv_iload_n hx hb d_MO_may_83 rfl (lv_at hl 0 rfl) ?_
                          exact hret () (Or.inr rfl) (Or.inl ⟨rfl, by rcases h80 with rfl <;> (unfold alP alv; simp <;> omega)⟩) hP hD hS d_MO_may_84
                        · refine lv_iload_n hx hb d_MO_may_83 rfl (lv_at hl 0 rfl) ?_
                          exact hret () (Or.inl rfl) (Or.inr ⟨rfl, by rcases h80 with rfl <;> (unfold alP alv; simp <;> omega)⟩) hP hD hS d_MO_may_84
  refine lv_iload_n hx hb d_MO_may_0 rfl (lv_at hl 1 rfl) ?_
  refine cx_iconst hx hb d_MO_may_1 ?_
  refine cx_icmp_eq (tgt := 16) hx hb d_MO_may_2 rfl (by omega) (by omega) (fun h2 => ?_) (fun h2 => ?_)
  · refine cx_iconst hx hb d_MO_may_16 ?_
    refine lv_goto (tgt := 21) hx hb d_MO_may_17 rfl ?_
    exact J21 1 (by omega)
  · refine lv_iload_n hx hb d_MO_may_5 rfl (lv_at hl 1 rfl) ?_
    refine cx_iconst hx hb d_MO_may_6 ?_
    refine cx_icmp_eq (tgt := 16) hx hb d_MO_may_7 rfl (by omega) (by omega) (fun h7 => ?_) (fun h7 => ?_)
    · refine cx_iconst hx hb d_MO_may_16 ?_
      refine lv_goto (tgt := 21) hx hb d_MO_may_17 rfl ?_
      exact J21 1 (by omega)
    · refine lv_iload_n hx hb d_MO_may_10 rfl (lv_at hl 1 rfl) ?_
      refine cx_bipush hx hb d_MO_may_11 rfl ?_
      refine cx_icmp_ne (tgt := 20) hx hb d_MO_may_13 rfl (by omega) (by omega) (fun h13 => ?_) (fun h13 => ?_)
      · refine cx_iconst hx hb d_MO_may_20 ?_
        exact J21 0 (by omega)
      · refine cx_iconst hx hb d_MO_may_16 ?_
        refine lv_goto (tgt := 21) hx hb d_MO_may_17 rfl ?_
        exact J21 1 (by omega)
