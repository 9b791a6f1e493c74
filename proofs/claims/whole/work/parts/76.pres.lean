/-! what no step touches: the count of steps and the latest answer -/
def kpt (x u : SX) : Prop := u 21 = x 21 ∧ u 22 = x 22
theorem kpt_rfl {x : SX} : kpt x x := ⟨rfl, rfl⟩
theorem kpt_tr {x y z : SX} (h : kpt x y) (g : kpt y z) : kpt x z := ⟨g.1.trans h.1, g.2.trans h.2⟩
theorem kpt_gof (g : Int) (x : SX) : kpt x (gof g x) := by
  unfold gof
  split
  · exact ⟨rfl, rfl⟩
  · exact ⟨rfl, rfl⟩
theorem kpt_tak (o k : Int) (x : SX) : kpt x (takS o k x) := by
  unfold takS takB takA
  split <;> split <;> first | exact ⟨rfl, rfl⟩ | (split <;> exact ⟨rfl, rfl⟩)
theorem kpt_add (k v : Int) (d : Int → Int) (x : SX) : kpt x (addS k v d x) := by
  unfold addS
  split
  · exact ⟨rfl, rfl⟩
  · exact ⟨rfl, rfl⟩
theorem kpt_calC (fz v : Int) (x : SX) (k p : Int) : kpt x (calC fz v x k p) := by
  unfold calC
  split
  · exact ⟨rfl, rfl⟩
  · exact kpt_add _ _ _ _
theorem kpt_calE (y : SX) (p k : Int) : kpt y (calE y p k) := ⟨rfl, rfl⟩
theorem kpt_cal (n fz tn : Int) (x : SX) : kpt x (calS n fz tn x).2 := by
  unfold calS calK calP
  split
  · exact kpt_rfl
  · split
    · exact kpt_rfl
    · exact kpt_tr (kpt_calC _ _ _ _ _) (kpt_calE _ _ _)
theorem kpt_mov (n : Int) (x : SX) : kpt x (movS n x).2 := by
  unfold movS movK
  split
  · exact kpt_rfl
  · exact ⟨rfl, rfl⟩
theorem kpt_lod (n : Int) (x : SX) : kpt x (lodS n x).2 := by
  unfold lodS lodK
  split
  · exact kpt_rfl
  · exact ⟨rfl, rfl⟩
theorem kpt_bit (n b : Int) (x : SX) : kpt x (bitS n b x).2 := by
  unfold bitS
  split
  · exact ⟨rfl, rfl⟩
  · exact kpt_rfl
theorem kpt_cmp (n : Int) (x : SX) : kpt x (cmpS n x).2 := by
  unfold cmpS cmpK
  split
  · exact kpt_rfl
  · exact ⟨rfl, rfl⟩
theorem kpt_mrk (n b : Int) (x : SX) : kpt x (mrkS n b x).2 := by
  unfold mrkS
  split
  · exact ⟨rfl, rfl⟩
  · exact kpt_rfl
theorem kpt_clr (n g : Int) (x : SX) : kpt x (clrS n g x).2 := by
  unfold clrS
  split
  · exact kpt_tr ⟨rfl, rfl⟩ (kpt_gof _ _)
  · exact kpt_rfl
theorem kpt_sup (n : Int) (x : SX) : kpt x (supS n x).2 := by
  unfold supS supK
  split
  · exact kpt_rfl
  · exact ⟨rfl, rfl⟩
theorem kpt_ovo (v : Int) (x : SX) : kpt x (ovo v x) := by
  unfold ovo
  split
  · exact ⟨rfl, rfl⟩
  · exact kpt_rfl
theorem kpt_brn (n k : Int) (x : SX) : kpt x (brnS n k x).2 := by
  unfold brnS
  split
  · split
    · exact kpt_tr ⟨rfl, rfl⟩ (kpt_gof _ _)
    · exact kpt_rfl
  · split
    · exact kpt_tr (kpt_ovo _ _) (kpt_gof _ _)
    · exact ⟨rfl, rfl⟩
theorem kpt_bps (n : Int) (x : SX) : kpt x (bpsS n x).2 := by
  unfold bpsS
  split
  · exact kpt_tr ⟨rfl, rfl⟩ (kpt_gof _ _)
  · exact kpt_rfl
theorem kpt_rdc (g : Int) (x : SX) : kpt x (rdcS g x).2 := by
  unfold rdcS
  split
  · exact kpt_rfl
  · exact kpt_tr ⟨rfl, rfl⟩ (kpt_gof _ _)
theorem kpt_fil3 (cap area wid g : Int) (x : SX) : kpt x (filS 3 19 cap area wid g x).2 := by
  unfold filS
  split
  · exact kpt_rfl
  · exact kpt_tr ⟨rfl, rfl⟩ (kpt_gof _ _)
theorem kpt_fil4 (cap area wid g : Int) (x : SX) : kpt x (filS 4 20 cap area wid g x).2 := by
  unfold filS
  split
  · exact kpt_rfl
  · exact kpt_tr ⟨rfl, rfl⟩ (kpt_gof _ _)
theorem kpt_sta (n y : Int) (x : SX) : kpt x (staS n y x).2 := by
  unfold staS
  split
  · exact ⟨rfl, rfl⟩
  · exact kpt_rfl
theorem kpt_per (n o k y : Int) (x : SX) : kpt x (perS n o k y x).2 := by
  unfold perS
  repeat (first | exact kpt_cal _ _ _ _ | exact kpt_mov _ _ | exact kpt_lod _ _ | exact kpt_bit _ _ _ | exact kpt_cmp _ _ | exact kpt_mrk _ _ _ | exact kpt_clr _ _ _ | exact kpt_sup _ _ | exact kpt_brn _ _ _ | exact kpt_bps _ _ | exact kpt_rdc _ _ | exact kpt_fil3 _ _ _ _ _ | exact kpt_fil4 _ _ _ _ _ | exact kpt_sta _ _ _ | exact kpt_gof _ _ | exact kpt_rfl | split)
theorem kpt_stp (n : Int) (x : SX) : kpt x (stpS n x).2 := by
  unfold stpS
  split
  · split
    · unfold stpK
      split
      · exact kpt_rfl
      · split
        · exact kpt_tr (kpt_tak _ _ _) (kpt_per _ _ _ _ _)
        · exact kpt_rfl
    · exact kpt_rfl
  · exact kpt_rfl
