/-! what no step touches: the count of steps and the latest answer -/
def kpt (x u : SX) : Prop := u 21 = x 21 ∧ u 22 = x 22
theorem kpt_rfl {x : SX} : kpt x x := ⟨rfl, rfl⟩
theorem kpt_tr {x y z : SX} (h : kpt x y) (g : kpt y z) : kpt x z := ⟨g.1.trans h.1, g.2.trans h.2⟩
theorem kpt_gof (g : Int) (x : SX) : kpt x (gof g x) := by
  unfold gof
  split
  · exact ⟨rfl, rfl⟩
  · exact ⟨rfl, rfl⟩
theorem kpt_tak (o k : Int) (x : SX) : kpt x (takS o k x) := by
  unfold takS takB takA
  split <;> split <;> first | exact ⟨rfl, rfl⟩ | (split <;> exact ⟨rfl, rfl⟩)
theorem kpt_add (k v : Int) (d : Int → Int) (x : SX) : kpt x (addS k v d x) := by
  unfold addS
  split
  · exact ⟨rfl, rfl⟩
  · exact ⟨rfl, rfl⟩
theorem kpt_calC (fz v : Int) (x : SX) (k p : Int) : kpt x (calC fz v x k p) := by
  unfold calC
  split
  · exact ⟨rfl, rfl⟩
  · exact kpt_add _ _ _ _
theorem kpt_calE (y : SX) (p k : Int) : kpt y (calE y p k) := ⟨rfl, rfl⟩
theorem kpt_cal (n fz tn : Int) (x : SX) : kpt x (calS n fz tn x).2 := by
  unfold calS calK calP
  split
  · exact kpt_rfl
  · split
    · exact kpt_rfl
    · exact kpt_tr (kpt_calC _ _ _ _ _) (kpt_calE _ _ _)
theorem kpt_mov (n : Int) (x : SX) : kpt x (movS n x).2 := by
  unfold movS movK
  split
  · exact kpt_rfl
  · exact ⟨rfl, rfl⟩
theorem kpt_lod (n : Int) (x : SX) : kpt x (lodS n x).2 := by
  unfold lodS lodK
  split
  · exact kpt_rfl
  · exact ⟨rfl, rfl⟩
theorem kpt_bit (n b : Int) (x : SX) : kpt x (bitS n b x).2 := by
  unfold bitS
  split
  · exact ⟨rfl, rfl⟩
  · exact kpt_rfl
theorem kpt_cmp (n : Int) (x : SX) : kpt x (cmpS n x).2 := by
  unfold cmpS cmpK
  split
  · exact kpt_rfl
  · exact ⟨rfl, rfl⟩
theorem kpt_mrk (n b : Int) (x : SX) : kpt x (mrkS n b x).2 := by
  unfold mrkS
  split
  · exact ⟨rfl, rfl⟩
  · exact kpt_rfl
theorem kpt_clr (n g : Int) (x : SX) : kpt x (clrS n g x).2 := by
  unfold clrS
  split
  · exact kpt_tr ⟨rfl, rfl⟩ (kpt_gof _ _)
  · exact kpt_rfl
theorem kpt_sup (n : Int) (x : SX) : kpt x (supS n x).2 := by
  unfold supS supK
  split
  · exact kpt_rfl
  · exact ⟨rfl, rfl⟩
theorem kpt_ovo (v : Int) (x : SX) : kpt x (ovo v x) := by
  unfold ovo
  split
  · exact ⟨rfl, rfl⟩
  · exact kpt_rfl
theorem kpt_brn (n k : Int) (x : SX) : kpt x (brnS n k x).2 := by
  unfold brnS
  split
  · split
    · exact kpt_tr ⟨rfl, rfl⟩ (kpt_gof _ _)
    · exact kpt_rfl
  · split
    · exact kpt_tr (kpt_ovo _ _) (kpt_gof _ _)
    · exact ⟨rfl, rfl⟩
theorem kpt_bps (n : Int) (x : SX) : kpt x (bpsS n x).2 := by
  unfold bpsS
  split
  · exact kpt_tr ⟨rfl, rfl⟩ (kpt_gof _ _)
  · exact kpt_rfl
theorem kpt_rdc (g : Int) (x : SX) : kpt x (rdcS g x).2 := by
  unfold rdcS
  split
  · exact kpt_rfl
  · exact kpt_tr ⟨rfl, rfl⟩ (kpt_gof _ _)
theorem kpt_fil3 (cap area wid g : Int) (x : SX) : kpt x (filS 3 19 cap area wid g x).2 := by
  unfold filS
  split
  · exact kpt_rfl
  · exact kpt_tr ⟨rfl, rfl⟩ (kpt_gof _ _)
theorem kpt_fil4 (cap area wid g : Int) (x : SX) : kpt x (filS 4 20 cap area wid g x).2 := by
  unfold filS
  split
  · exact kpt_rfl
  · exact kpt_tr ⟨rfl, rfl⟩ (kpt_gof _ _)
theorem kpt_sta (n y : Int) (x : SX) : kpt x (staS n y x).2 := by
  unfold staS
  split
  · exact ⟨rfl, rfl⟩
  · exact kpt_rfl
theorem kpt_ite {c : Prop} [Decidable c] {x : SX} {a b : Int × SX} (ha : kpt x a.2) (hb : kpt x b.2) : kpt x (if c then a else b).2 := by
  split
  · exact ha
  · exact hb
theorem kpt_per (n o k y : Int) (x : SX) : kpt x (perS n o k y x).2 := by
  unfold perS
  exact kpt_ite (kpt_cal _ _ _ _) (kpt_ite (kpt_cal _ _ _ _) (kpt_ite (kpt_cal _ _ _ _) (kpt_ite (kpt_cal _ _ _ _) (kpt_ite (kpt_mov _ _) (kpt_ite (kpt_lod _ _) (kpt_ite (kpt_bit _ _ _) (kpt_ite (kpt_bit _ _ _) (kpt_ite (kpt_cmp _ _) (kpt_ite (kpt_mrk _ _ _) (kpt_ite (kpt_mrk _ _ _) (kpt_ite (kpt_clr _ _ _) (kpt_ite (kpt_sup _ _) (kpt_ite (kpt_brn _ _ _) (kpt_ite (kpt_bps _ _) (kpt_ite (kpt_rdc _ _) (kpt_ite (kpt_fil3 _ _ _ _ _) (kpt_ite (kpt_fil4 _ _ _ _ _) (kpt_ite (kpt_sta _ _ _) (kpt_ite (kpt_sta _ _ _) (kpt_ite (kpt_gof _ _) (kpt_rfl)))))))))))))))))))))
theorem kpt_stp (n : Int) (x : SX) : kpt x (stpS n x).2 := by
  unfold stpS
  split
  · split
    · unfold stpK
      split
      · exact kpt_rfl
      · split
        · exact kpt_tr (kpt_tak _ _ _) (kpt_per _ _ _ _ _)
        · exact kpt_rfl
    · exact kpt_rfl
  · exact kpt_rfl
/-- a reason is one of seven -/
def rng (f : Int × SX) : Prop := 0 ≤ f.1 ∧ f.1 ≤ 6
theorem rng_0 : (0 : Int) ≤ 0 ∧ (0 : Int) ≤ 6 := by decide
theorem rng_1 : (0 : Int) ≤ 1 ∧ (1 : Int) ≤ 6 := by decide
theorem rng_2 : (0 : Int) ≤ 2 ∧ (2 : Int) ≤ 6 := by decide
theorem rng_3 : (0 : Int) ≤ 3 ∧ (3 : Int) ≤ 6 := by decide
theorem rng_4 : (0 : Int) ≤ 4 ∧ (4 : Int) ≤ 6 := by decide
theorem rng_5 : (0 : Int) ≤ 5 ∧ (5 : Int) ≤ 6 := by decide
theorem rng_6 : (0 : Int) ≤ 6 ∧ (6 : Int) ≤ 6 := by decide
theorem rng_ite {c : Prop} [Decidable c] {a b : Int × SX} (ha : rng a) (hb : rng b) : rng (if c then a else b) := by
  split
  · exact ha
  · exact hb
theorem rng_cal (n fz tn : Int) (x : SX) : rng (calS n fz tn x) := rng_ite rng_2 (rng_ite rng_2 rng_0)
theorem rng_mov (n : Int) (x : SX) : rng (movS n x) := rng_ite rng_2 rng_0
theorem rng_lod (n : Int) (x : SX) : rng (lodS n x) := rng_ite rng_2 rng_0
theorem rng_bit (n b : Int) (x : SX) : rng (bitS n b x) := rng_ite rng_0 rng_2
theorem rng_cmp (n : Int) (x : SX) : rng (cmpS n x) := rng_ite rng_2 rng_0
theorem rng_mrk (n b : Int) (x : SX) : rng (mrkS n b x) := rng_ite rng_0 rng_2
theorem rng_clr (n g : Int) (x : SX) : rng (clrS n g x) := rng_ite rng_0 rng_2
theorem rng_sup (n : Int) (x : SX) : rng (supS n x) := rng_ite rng_2 rng_0
theorem rng_brn (n k : Int) (x : SX) : rng (brnS n k x) := rng_ite (rng_ite rng_0 rng_2) (rng_ite rng_0 rng_0)
theorem rng_bps (n : Int) (x : SX) : rng (bpsS n x) := rng_ite rng_0 rng_2
theorem rng_rdc (g : Int) (x : SX) : rng (rdcS g x) := rng_ite rng_4 rng_0
theorem rng_fil (f fl : Nat) (cap area wid g : Int) (x : SX) : rng (filS f fl cap area wid g x) := rng_ite rng_5 rng_0
theorem rng_sta (n y : Int) (x : SX) : rng (staS n y x) := rng_ite rng_0 rng_2
theorem rng_per (n o k y : Int) (x : SX) : rng (perS n o k y x) := by
  unfold perS
  exact rng_ite (rng_cal _ _ _ _) (rng_ite (rng_cal _ _ _ _) (rng_ite (rng_cal _ _ _ _) (rng_ite (rng_cal _ _ _ _) (rng_ite (rng_mov _ _) (rng_ite (rng_lod _ _) (rng_ite (rng_bit _ _ _) (rng_ite (rng_bit _ _ _) (rng_ite (rng_cmp _ _) (rng_ite (rng_mrk _ _ _) (rng_ite (rng_mrk _ _ _) (rng_ite (rng_clr _ _ _) (rng_ite (rng_sup _ _) (rng_ite (rng_brn _ _ _) (rng_ite (rng_bps _ _) (rng_ite (rng_rdc _ _) (rng_ite (rng_fil _ _ _ _ _ _ _) (rng_ite (rng_fil _ _ _ _ _ _ _) (rng_ite (rng_sta _ _ _) (rng_ite (rng_sta _ _ _) (rng_ite rng_6 rng_0))))))))))))))))))))
theorem rng_stp (n : Int) (x : SX) : rng (stpS n x) := by
  unfold stpS stpK
  exact rng_ite (rng_ite (rng_ite rng_3 (rng_ite (rng_per _ _ _ _ _) rng_3)) rng_1) rng_2
