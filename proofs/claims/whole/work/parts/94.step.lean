/-! WHAT THE CLASS's SUMS WRITE keeps the relation -/
section STEP
variable {lab : Nat → Nat} {c d : Nat} {S : zS} {I I' : Nat → Nat → Int32} {J J' : Nat → Nat → Int64} {R R' : Nat → Nat → Option Nat} {x t b rd ch sa na su lo fl st pa ak dr pa2 ak2 : Nat} {rw rw2 lw rs le g : Nat → Nat} {y tp td rm ra am ks kn ro ba be : Nat}
variable {tg aq cs cn : Nat → Int32} {n m k u qn : Nat} {p : Nat → Nat → Int32} {tt : Int32} {ob : Option Nat}
/-- the class's addresses that are no part of its sums -/
theorem CL_ne (hL : CL lab c d S R x t b rd ch sa na su lo fl st pa ak dr pa2 ak2 rw rw2 lw rs le g) : (t ≠ su ∧ b ≠ su ∧ ch ≠ su ∧ sa ≠ su ∧ na ≠ su ∧ st ≠ su ∧ ak ≠ su ∧ (∀ i, rw i ≠ su)) ∧ (∀ v, v < 5 → t ≠ le v ∧ b ≠ le v ∧ ch ≠ le v ∧ sa ≠ le v ∧ na ≠ le v ∧ st ≠ le v ∧ ak ≠ le v ∧ ∀ i, rw i ≠ le v) ∧ ∀ v, v < 5 → le v ≠ su := by
  obtain ⟨-, ⟨t1, -, b1⟩, -, ⟨c1, -, -, s1, n1, -⟩, Y1, -, U, ⟨l1, l2, l3, l4, l5, l6, l7, l8⟩, ⟨l9, l10, l11⟩, -, l12, l13, hcd, -⟩ := hL
  have hle : ∀ v, v < 5 → S.2.1 (le v) = 11 := fun v hv => (U.2.2.2.2.2.2.2.2.2.2.2.2.1 v hv).2.2.2.2.1.2.1
  refine ⟨⟨kn t1.2 U.1.2 (by decide), lne l3 l8 (by decide), kn c1.2 U.1.2 (by decide), lne l6 l8 (by decide), lne l7 l8 (by decide), kn Y1.1.2 U.1.2 (by decide), lne l10 l8 (by omega), fun i => lne (l11 i) l8 (by omega)⟩, fun v hv => ⟨lne l2 (l12 v hv) (by decide), lne l3 (l12 v hv) (by decide), lne l5 (l12 v hv) (by decide), lne l6 (l12 v hv) (by decide), lne l7 (l12 v hv) (by decide), lne l9 (l12 v hv) (by omega), lne l10 (l12 v hv) (by omega), fun i => lne (l11 i) (l12 v hv) (by omega)⟩, fun v hv => lne (l12 v hv) l8 (by decide)⟩
theorem CL_U (hL : CL lab c d S R x t b rd ch sa na su lo fl st pa ak dr pa2 ak2 rw rw2 lw rs le g) : SU S R su st lo fl lw rs le g := hL.2.2.2.2.2.2.1
theorem CL_Y (hL : CL lab c d S R x t b rd ch sa na su lo fl st pa ak dr pa2 ak2 rw rw2 lw rs le g) : SY S R st pa ak rw := hL.2.2.2.2.1
theorem CL_Y2 (hL : CL lab c d S R x t b rd ch sa na su lo fl st pa ak dr pa2 ak2 rw rw2 lw rs le g) : SY S R dr pa2 ak2 rw2 := hL.2.2.2.2.2.1
theorem CL_5 (hL : CL lab c d S R x t b rd ch sa na su lo fl st pa ak dr pa2 ak2 rw rw2 lw rs le g) : lab su < 100 ∧ ∀ v, v < 5 → lab (le v) < 100 := by
  obtain ⟨-, -, -, -, -, -, -, ⟨l1, l2, l3, l4, l5, l6, l7, l8⟩, -, -, l12, -⟩ := hL
  exact ⟨by omega, fun v hv => by rw [l12 v hv]; decide⟩
/-- the questions' own writing -/
theorem k_query (hm : m ≤ 10) (hL : CL lab c d S R x t b rd ch sa na su lo fl st pa ak dr pa2 ak2 rw rw2 lw rs le g) (h1 : TY S R I t b n tg) (h2 : CG I ch sa na k cs cn) (h3 : ST I st ak rw m p tt aq) (h4 : SS I J st su ak le g p m u qn ob)
    (f1 : ∀ q, q ≠ le 4 → q ≠ su → I' q = I q) (f2 : ∀ w, w ≠ 12 → w ≠ 13 → I' su w = I su w) (f3 : I' su 12 = I su 12 ∨ (¬ J su 11 = 0 ∧ I' su 12 = idM p (SBc p m (nI u) qn ob) (fcP p m) m)) (f4 : I' su 13 = I su 13 ∨ (¬ J su 11 = 0 ∧ I' su 13 = fwV p m (nI u) qn ob (fcP p m))) (f5 : ∀ q, q ≠ g 51 → q ≠ g 52 → (∀ j, j < 8 → q ≠ g (32 + j)) → J' q = J q) :
    TY S R I' t b n tg ∧ CG I' ch sa na k cs cn ∧ ST I' st ak rw m p tt aq ∧ SS I' J' st su ak le g p m u qn ob ∧ FC lab I I' := by
  obtain ⟨⟨a1, a2, a3, a4, a5, a6, a7, a8⟩, hle, hls⟩ := CL_ne hL
  obtain ⟨b1, b2, b3, b4, b5, b6, b7, b8⟩ := hle 4 (by decide)
  have U := CL_U hL
  have hJ : J' su = J su := f5 su (U.sug (i := 51) (by decide)).symm (U.sug (i := 52) (by decide)).symm (fun j hj => (U.sug (i := 32 + j) (by omega)).symm)
  have hst : I' st = I st := f1 st b6 a6
  have hak : I' ak = I ak := f1 ak b7 a7
  refine ⟨TY_c h1 (f1 t b1 a1) (f1 b b2 a2), CG_c h2 (f1 ch b3 a3) (f1 sa b4 a4) (f1 na b5 a5), ST_c h3 hst hak (fun i => f1 _ (b8 i) (a8 i)), ⟨SV_c h4.1 (f2 9 (by decide) (by decide)) hst hak (fun v hv => f1 _ (fun q => absurd (U.2.2.2.2.2.2.2.2.2.2.2.2.2.2.2.2.2.2.2 v 4 (by omega) (by decide) q) (by omega)) (hls v (by omega))) ⟨by rw [hJ], by rw [hJ]⟩ (fun i hi h51 h52 h32 => f5 _ (U.g_ne hi (by decide) h51) (U.g_ne hi (by decide) h52) (fun j hj => U.g_ne hi (by omega) (by omega))) hm, ?_, ?_⟩, fun a ha => f1 a (fun q => by have := (CL_5 hL).2 4 (by decide); rw [q] at ha; omega) (fun q => by have := (CL_5 hL).1; rw [q] at ha; omega)⟩
  · rw [hJ]
    intro z
    rcases f4 with e | e
    · rw [e]; exact h4.2.1 z
    · exact absurd z e.1
  · rw [hJ]
    intro z
    obtain ⟨z1, z2⟩ := h4.2.2 z
    refine ⟨?_, ?_⟩
    · rcases f3 with e | e
      · rw [e]; exact z1
      · exact Or.inr e.2
    · rcases f4 with e | e
      · rw [e]; exact z2
      · exact Or.inr e.2
theorem SS_CX (hP : PU tg n m p tt aq k cs cn u qn ob) (h3 : ST I st ak rw m p tt aq) (h4 : SS I J st su ak le g p m u qn ob) (z : ¬ J su 11 = 0) : CX I J st ak rw g p m (nI u) qn ob (csG I ak p m) (fcP p m) := by
  have hC := ST_CS hP h3
  have q : hasC tt p m u qn ob := Classical.byContradiction fun w => z ((hasC_J hP h3 h4).1.mpr w)
  have ht : I st 5 ≠ 0 := by rw [h3.2.2.2.2.1]; exact q.1
  refine ⟨h3.2.1, h3.2.2.2.1, ?_, h3.1, hP.2.2.1, ht, (hC.2.2.2.2 ht).2.2.2.1, (PU_ob hP q.1).1, (PU_ob hP q.1).2, ?_, h4.1.2.2.2.2.1, h4.1.2.2.2.2.2 ht⟩
  · have := hC.2.2.2.1
    rw [h3.2.2.2.1] at this
    exact this
  · have := gA_b hP.2.2.1 (I ak 1) (I ak 2) (I ak 3) (I ak 4)
    exact Int.le_trans this (by decide)
theorem SS_LX (hP : PU tg n m p tt aq k cs cn u qn ob) (h3 : ST I st ak rw m p tt aq) (h4 : SS I J st su ak le g p m u qn ob) (ht : I st 5 ≠ 0) : I ak 3 = nI u ∧ u < 4 ∧ (I su 9 = -1 → J su 11 = 0 → WT p m ∧ CI (gth p m (nI u) aT m).1 (fun j k => J (g (8 * u + j)) k) (I (le u)) ∧ qn < 8 ∧ (∀ nb, ob = some nb → nb < 8 ∧ nb ≠ qn) ∧ ab (csG I ak p m) ≤ 1000000 ∧ e10 (J (g 50)) = sft (qrow qn ob) (csG I ak p m)) := by
  have hC := ST_CS hP h3
  have hu := (hC.2.2.2.2 ht).2.2.2
  have ht2 : tt ≠ 0 := by rw [← h3.2.2.2.2.1]; exact ht
  refine ⟨hu.1, hu.2, fun h9 _ => ⟨hP.2.2.1, h4.1.2.1 (by rw [← h4.1.1]; exact h9) u hu.2, (PU_ob hP ht2).1, (PU_ob hP ht2).2, ?_, h4.1.2.2.2.2.2 ht⟩⟩
  have := gA_b hP.2.2.1 (I ak 1) (I ak 2) (I ak 3) (I ak 4)
  exact Int.le_trans this (by decide)
/-- all is worked out anew -/
theorem k_solve (hL : CL lab c d S R x t b rd ch sa na su lo fl st pa ak dr pa2 ak2 rw rw2 lw rs le g) (h1 : TY S R I t b n tg) (h2 : CG I ch sa na k cs cn) (h3 : ST I st ak rw m p tt aq)
    (f1 : ∀ q, (∀ v, v < 4 → q ≠ le v) → q ≠ su → I' q = I q) (f3 : I' su 12 = -1) (f4 : I' su 13 = -1) (f6 : SV I' J' st su ak le g p m u qn ob) :
    TY S R I' t b n tg ∧ CG I' ch sa na k cs cn ∧ ST I' st ak rw m p tt aq ∧ SS I' J' st su ak le g p m u qn ob ∧ FC lab I I' := by
  obtain ⟨⟨a1, a2, a3, a4, a5, a6, a7, a8⟩, hle, hls⟩ := CL_ne hL
  refine ⟨TY_c h1 (f1 t (fun v hv => (hle v (by omega)).1) a1) (f1 b (fun v hv => (hle v (by omega)).2.1) a2), CG_c h2 (f1 ch (fun v hv => (hle v (by omega)).2.2.1) a3) (f1 sa (fun v hv => (hle v (by omega)).2.2.2.1) a4) (f1 na (fun v hv => (hle v (by omega)).2.2.2.2.1) a5), ST_c h3 (f1 st (fun v hv => (hle v (by omega)).2.2.2.2.2.1) a6) (f1 ak (fun v hv => (hle v (by omega)).2.2.2.2.2.2.1) a7) (fun i => f1 _ (fun v hv => (hle v (by omega)).2.2.2.2.2.2.2 i) (a8 i)), ⟨f6, fun _ => f4, fun _ => ⟨Or.inl f3, Or.inl f4⟩⟩, fun a ha => f1 a (fun v hv q => by have := (CL_5 hL).2 v (by omega); rw [q] at ha; omega) (fun q => by have := (CL_5 hL).1; rw [q] at ha; omega)⟩
theorem CL_A (hL : CL lab c d S R x t b rd ch sa na su lo fl st pa ak dr pa2 ak2 rw rw2 lw rs le g) : (∀ i, rw i ≠ su) ∧ ∀ i v, v < 5 → rw i ≠ le v := ⟨(CL_ne hL).1.2.2.2.2.2.2.2, fun i v hv => ((CL_ne hL).2.1 v hv).2.2.2.2.2.2.2 i⟩
theorem CL_CH (hL : CL lab c d S R x t b rd ch sa na su lo fl st pa ak dr pa2 ak2 rw rw2 lw rs le g) (h2 : CG I ch sa na k cs cn) (hk : k ≤ 50) : CH S R I ch sa na k := ⟨hL.2.2.2.1.1, hL.2.2.2.1.2.1, hL.2.2.2.1.2.2.1, hL.2.2.2.1.2.2.2.1, hL.2.2.2.1.2.2.2.2.1, hL.2.2.2.1.2.2.2.2.2, h2.1, hk⟩
end STEP
