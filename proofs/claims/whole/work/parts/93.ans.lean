/-! THE ANSWERS of both sides over the relation -/
section ANSW
variable {lab : Nat → Nat} {c d : Nat} {S : zS} {I I' : Nat → Nat → Int32} {J J' : Nat → Nat → Int64} {R R' : Nat → Nat → Option Nat} {x t b rd ch sa na su lo fl st pa ak dr pa2 ak2 : Nat} {rw rw2 lw rs le g : Nat → Nat} {y tp td rm ra am ks kn ro ba be : Nat}
variable {tg aq cs cn : Nat → Int32} {n m k u qn : Nat} {p : Nat → Nat → Int32} {tt : Int32} {ob : Option Nat}
abbrev tq (I : Nat → Nat → Int32) (td : Nat) : Nat → Nat → Int32 := fun i w => tdP I td i w
theorem stT_c {p p' : Nat → Nat → Int32} (h : PE p p' m) : stT p m = stT p' m := funext fun t => by
  have : ∀ sg un na, stq p m sg un na = stq p' m sg un na := fun sg un na => stq_c h sg un na
  unfold stT stU stN
  simp only [this]
theorem w45 {w : Int32} : (0 ≤ w ∧ w < 5) ↔ (0 ≤ w ∧ w ≤ 4) := w8 (w := w) (n := 4) (by decide)
theorem w67 {w : Int32} : (0 ≤ w ∧ w < 7) ↔ (0 ≤ w ∧ w ≤ 6) := w8 (w := w) (n := 6) (by decide)
theorem cl_lt {w : Int32} {j : Nat} (h0 : 0 ≤ w) (h : w < nI j) (hj : j < 1000) : w.toNatClampNeg < j := by
  obtain ⟨i, hi, rfl⟩ := nI_of (x := w) (fun q => by rw [i32l.1] at q; rw [i32l.2.1] at h0; omega)
  rw [nI_clamp hi]
  exact nlt hi (by omega) h
/-- told questions are the same on both sides -/
theorem ak_am (h3 : ST I st ak rw m p tt aq) (h5 : MD I y tp td am ks kn tg n m p tt aq k cs cn) (ht : tt ≠ 0) {j : Nat} (hj : j < 5) : I am j = I ak j := (h5.2.2.2.2.2.2.2 ht j hj).trans (h3.2.2.2.2.2 ht j hj).symm
theorem am_3 (hP : PU tg n m p tt aq k cs cn u qn ob) (h5 : MD I y tp td am ks kn tg n m p tt aq k cs cn) (ht : tt ≠ 0) : I am 3 = nI u := (h5.2.2.2.2.2.2.2 ht 3 (by omega)).trans (hP.2.2.2.2.2.2.1 ht).2.2.2.1
theorem PU_ob (hP : PU tg n m p tt aq k cs cn u qn ob) (ht : tt ≠ 0) : qn < 8 ∧ ∀ nb, ob = some nb → nb < 8 ∧ nb ≠ qn := by
  obtain ⟨-, q2, q3, -⟩ := hP.2.2.2.2.2.2.1 ht
  refine ⟨q2, fun nb e => ?_⟩
  rcases q3 with ⟨_, w⟩ | ⟨n, a1, _, a3, a4⟩
  · rw [w] at e; cases e
  · rw [a3] at e; injection e with e; subst e; exact ⟨a1, a4⟩
theorem e_question (h3 : ST I st ak rw m p tt aq) (h5 : MD I y tp td am ks kn tg n m p tt aq k cs cn) {w : Int32} : (if I y 9 ≠ 0 ∧ 0 ≤ w ∧ w ≤ 4 then I am w.toNatClampNeg else -1) = (if I st 5 ≠ 0 ∧ 0 ≤ w ∧ w < 5 then I ak w.toNatClampNeg else -1) := by
  rw [h5.2.2.2.2.1, h3.2.2.2.2.1]
  by_cases q : tt ≠ 0 ∧ 0 ≤ w ∧ w < 5
  · rw [if_pos q, if_pos ⟨q.1, w45.mp q.2⟩]
    exact ak_am h3 h5 q.1 (cl_lt (j := 5) q.2.1 q.2.2 (by decide))
  · rw [if_neg q, if_neg (fun z => q ⟨z.1, w45.mpr z.2⟩)]
theorem e_quarrel (hP : PU tg n m p tt aq k cs cn u qn ob) (h4 : SS I J st su ak le g p m u qn ob) (h5 : MD I y tp td am ks kn tg n m p tt aq k cs cn) : QA (tq I td) m = I su 9 := by
  rw [h4.1.1, ← QA_c (MD_PE h5), QA_QC hP.2.2.1.1]
/-- the answer stands: the class's mark -/
theorem hasC_J (hP : PU tg n m p tt aq k cs cn u qn ob) (h3 : ST I st ak rw m p tt aq) (h4 : SS I J st su ak le g p m u qn ob) : (J su 11 = 0 ↔ ¬ hasC tt p m u qn ob) ∧ (hasC tt p m u qn ob → rhoQ p m u qn ob 8 ≠ 0) := by
  have hW := hP.2.2.1
  have e5 := h3.2.2.2.2.1
  have a := h4.1.2.2.2.1
  rw [e5] at a
  have h8 : hasC tt p m u qn ob → rhoQ p m u qn ob 8 ≠ 0 := fun q => redu_80 (gth_ri hW (nI u) aT m (Nat.le_refl _)).1 (qrow_8 (PU_ob hP q.1).1 (PU_ob hP q.1).2)
  refine ⟨⟨fun z q => ?_, a.2⟩, h8⟩
  have := (a.1 q).2
  rw [z] at this
  exact val_1n (h8 q) this.symm
theorem HA_q (hP : PU tg n m p tt aq k cs cn u qn ob) (h5 : MD I y tp td am ks kn tg n m p tt aq k cs cn) : (HA (I y 9) (tq I td) m (I am 3) qn ob = true) ↔ hasC tt p m u qn ob := by
  rw [h5.2.2.2.2.1]
  by_cases ht : tt = 0
  · refine ⟨fun q => ?_, fun q => absurd ht q.1⟩
    unfold HA at q
    rw [decide_eq_false (fun z => z ht), Bool.false_and, Bool.false_and] at q
    cases q
  · rw [am_3 hP h5 ht, ← HA_c (MD_PE h5)]
    exact HA_hasC hP.2.2.1
theorem e_answer (hP : PU tg n m p tt aq k cs cn u qn ob) (h3 : ST I st ak rw m p tt aq) (h4 : SS I J st su ak le g p m u qn ob) (h5 : MD I y tp td am ks kn tg n m p tt aq k cs cn) {w : Int32} {r : Int64} (hr : r.toInt = (if (0 ≤ w ∧ w ≤ 1) ∧ HA (I y 9) (tq I td) m (I am 3) qn ob = true then val w (redu (gth (tq I td) m (I am 3) (bt (al m)) m).1 (qrow qn ob)) (gA (tq I td) m (I am 1) (I am 2) (I am 3) (I am 4)) else -1000000000000)) : r = apC (J su 10) (J su 11) w := by
  have hW := hP.2.2.1
  have e5 := h3.2.2.2.2.1
  have a := h4.1.2.2.2.1
  rw [e5] at a
  have hh := hasC_J hP h3 h4
  have hPE := MD_PE h5
  refine ans_eq (C := hasC tt p m u qn ob) (ρ := rhoQ p m u qn ob) (G := csG I ak p m) (fun q => ⟨(a.1 q).1, (a.1 q).2, hh.2 q⟩) (fun q => hh.1.mpr q) ⟨fun q => ?_, fun q => ?_⟩
  · rw [hr, if_pos ⟨q.1, (HA_q hP h5).mpr q.2⟩, am_3 hP h5 q.2.1, ← gth_c hPE _ _ m (Nat.le_refl _), gth_all hW.1, ← gA_c hPE]
    unfold csG rhoQ
    rw [ak_am h3 h5 q.2.1 (j := 1) (by omega), ak_am h3 h5 q.2.1 (j := 2) (by omega), ← am_3 hP h5 q.2.1, ak_am h3 h5 q.2.1 (j := 3) (by omega), ak_am h3 h5 q.2.1 (j := 4) (by omega)]
  · rw [hr, if_neg (fun z => q ⟨z.1, (HA_q hP h5).mp z.2⟩)]
/-- the stages of both sides -/
theorem ns_st (hP : PU tg n m p tt aq k cs cn u qn ob) (h3 : ST I st ak rw m p tt aq) : (if I st 5 = 0 then 0 else I st 3 + 1) = nI (stg tt p m) ∧ stg tt p m < 100 ∧ (tt = 0 → stg tt p m = 0) := by
  have hev := ev_nf p m
  have hm := hP.2.2.1.1
  rw [h3.2.2.2.2.1, h3.2.2.1]
  unfold stg
  by_cases ht : tt = 0
  · have hm0 := hP.2.2.2.1 ht
    rw [if_pos ht, if_pos ht, hm0]
    exact ⟨rfl, by show 0 + 0 < 100; decide, fun _ => rfl⟩
  · rw [if_neg ht, if_neg ht, nI_1, Nat.add_comm]
    exact ⟨rfl, by omega, fun q => absurd q ht⟩
theorem e_amount (hP : PU tg n m p tt aq k cs cn u qn ob) (h3 : ST I st ak rw m p tt aq) (h4 : SS I J st su ak le g p m u qn ob) (h5 : MD I y tp td am ks kn tg n m p tt aq k cs cn) {nm un sg w : Int32} (hy : y ≠ td) {r : Int64} (hr : r.toInt = (if (0 ≤ w ∧ w ≤ 1) ∧ (0 ≤ nm ∧ nm ≤ 7) ∧ (0 ≤ un ∧ un ≤ 3) ∧ (0 ≤ sg ∧ sg ≤ sgM (zu I y 0 0) td (if zu I y 0 0 y 9 = 0 then 0 else 1) m - 1) ∧ QA (tq I td) m = -1 ∧ AB (tq I td) m un (bt (al m)) nm.toNatClampNeg none = true then val w (redu (gth (tq I td) m un (bt (al m)) m).1 (qrow nm.toNatClampNeg none)) (gz (tq I td) nm un sg m) else -1000000000000)) : r = (if (0 ≤ nm ∧ nm < 8) ∧ (0 ≤ un ∧ un < 4) ∧ 0 ≤ sg ∧ sg < (if I st 5 = 0 then 0 else I st 3 + 1) then apC (tpC J g (fun i => I (rw i)) m un.toNatClampNeg nm.toNatClampNeg sg) (J (g 54) (8 * un.toNatClampNeg + nm.toNatClampNeg)) w else UNT) := by
  have hPE := MD_PE h5
  obtain ⟨n1, n2, n3⟩ := ns_st hP h3
  have ep : (fun i => I (rw i)) = p := funext fun i => funext fun w => h3.1 i w
  have esg : sgM (zu I y 0 0) td (if zu I y 0 0 y 9 = 0 then 0 else 1) m = nI (stg tt p m) := by
    have e1 : (fun i w => tdP (zu I y 0 0) td i w) = fun i w => tdP I td i w := funext fun i => funext fun w => zu_a hy.symm
    rw [sgM_fq e1 (zu_k (by decide)) m, h5.2.2.2.2.1, ← stg_c hPE]
  rw [n1, ep]
  refine amt_eq hP.2.2.1 h4.1.2.2.1 n2 ?_
  rw [esg, ← QA_c hPE, ← AB_c hPE, ← gth_c hPE _ _ m (Nat.le_refl _), ← gz_c hPE _ _ _ m (Nat.le_refl _)] at hr
  exact hr
theorem e_idle (hP : PU tg n m p tt aq k cs cn u qn ob) (h3 : ST I st ak rw m p tt aq) (h4 : SS I J st su ak le g p m u qn ob) (h5 : MD I' y tp td am ks kn tg n m p tt aq k cs cn) : (if HA (I' y 9) (tq I' td) m (I' am 3) qn ob = true then idM (tq I' td) (fun st => AB (tq I' td) m (I' am 3) (bt st) qn ob) (al m) m else 0) = (if J su 11 = 0 then 0 else idM p (SBc p m (nI u) qn ob) (fcP p m) m) := by
  have hPE := MD_PE h5
  have hh := hasC_J hP h3 h4
  by_cases q : hasC tt p m u qn ob
  · rw [if_pos ((HA_q hP h5).mpr q), if_neg (fun z => hh.1.mp z q), am_3 hP h5 q.1, ← idM_c hPE _ _ m (Nat.le_refl _)]
    have e : (fun st => AB (tq I' td) m (nI u) (bt st) qn ob) = fun st => AB p m (nI u) (bt st) qn ob := funext fun st => (AB_c hPE _ _ _ _).symm
    rw [e]
    exact id_eq hP.2.2.1 q.2.1
  · rw [if_neg (fun z => q ((HA_q hP h5).mp z)), if_pos (hh.1.mpr q)]
theorem e_enough (hP : PU tg n m p tt aq k cs cn u qn ob) (h3 : ST I st ak rw m p tt aq) (h4 : SS I J st su ak le g p m u qn ob) (h5 : MD I' y tp td am ks kn tg n m p tt aq k cs cn) : (if HA (I' y 9) (tq I' td) m (I' am 3) qn ob = true then enL (fcM I' td m) (fun st => AB (tq I' td) m (I' am 3) (bt st) qn ob) (2 ^ m) (fcM I' td m) else -1) = (if J su 11 = 0 then I su 13 else fwV p m (nI u) qn ob (fcP p m)) := by
  have hPE := MD_PE h5
  have hh := hasC_J hP h3 h4
  by_cases q : hasC tt p m u qn ob
  · rw [if_pos ((HA_q hP h5).mpr q), if_neg (fun z => hh.1.mp z q), am_3 hP h5 q.1, fcM_fcP, ← fcP_c hPE m (Nat.le_refl _)]
    have e : (fun st => AB (tq I' td) m (nI u) (bt st) qn ob) = fun st => AB p m (nI u) (bt st) qn ob := funext fun st => (AB_c hPE _ _ _ _).symm
    rw [e]
    exact fw_eq hP.2.2.1 q.2.1 (PU_ob hP q.1).1 (PU_ob hP q.1).2 q.2.2
  · rw [if_neg (fun z => q ((HA_q hP h5).mp z)), if_pos (hh.1.mpr q)]
    exact (h4.2.1 (hh.1.mpr q)).symm
theorem e_lacking (hP : PU tg n m p tt aq k cs cn u qn ob) (h3 : ST I st ak rw m p tt aq) (h4 : SS I J st su ak le g p m u qn ob) (h5 : MD I' y tp td am ks kn tg n m p tt aq k cs cn) : (if I' y 9 ≠ 0 ∧ QA (tq I' td) m = -1 ∧ AB (tq I' td) m (I' am 3) (bt (al m)) qn ob = false then qFr (lkq (tq I' td) m (I' am 3) qn ob) 8 0 else -1) = (if I st 5 ≠ 0 ∧ I su 9 = -1 ∧ J su 11 = 0 then qFr (lcq p m u qn ob) 8 0 else -1) := by
  have hPE := MD_PE h5
  have hh := hasC_J hP h3 h4
  have hW := hP.2.2.1
  rw [h5.2.2.2.2.1, h3.2.2.2.2.1, ← QA_c hPE, QA_QC hW.1, h4.1.1]
  by_cases ht : tt = 0
  · rw [if_neg (fun z => z.1 ht), if_neg (fun z => z.1 ht)]
  · rw [am_3 hP h5 ht, ← AB_c hPE]
    by_cases hq : QC p m = -1
    · rw [AB_rhoQ hW hq]
      by_cases hs : sd (rhoQ p m u qn ob) = true
      · rw [if_neg (fun z => by rw [hs] at z; exact Bool.noConfusion z.2.2), if_neg (fun z => hh.1.mp z.2.2 ⟨ht, hq, hs⟩)]
      · have hs' : sd (rhoQ p m u qn ob) = false := by cases e : sd (rhoQ p m u qn ob) <;> simp_all
        rw [if_pos ⟨ht, hq, hs'⟩, if_pos ⟨ht, hq, hh.1.mpr (fun z => hs z.2.2)⟩]
        refine qFr_congr (fun j _ hj => ?_)
        rw [← lkq_c hPE]
        exact lkq_lcq hW (PU_ob hP ht).1 (PU_ob hP ht).2 (by omega) hs'
    · rw [if_neg (fun z => hq z.2.1), if_neg (fun z => hq z.2.1)]
theorem e_strange (hP : PU tg n m p tt aq k cs cn u qn ob) (h3 : ST I st ak rw m p tt aq) (h4 : SS I J st su ak le g p m u qn ob) (h5 : MD I y tp td am ks kn tg n m p tt aq k cs cn) {w : Int32} : (if I y 9 ≠ 0 ∧ (0 ≤ w ∧ w ≤ 2) ∧ QA (tq I td) m = -1 then stO w (sFn (stT (tq I td) m) (stg (I y 9) (tq I td) m) 0) else -1) = scO w (sFn (scT (fun t u k => stC J g (fun i => I (rw i)) m u k (nI t))) (stg tt p m) 0) := by
  have hPE := MD_PE h5
  have ep : (fun i => I (rw i)) = p := funext fun i => funext fun w => h3.1 i w
  rw [h5.2.2.2.2.1, ← QA_c hPE, ← stT_c hPE, ← stg_c hPE, ep]
  exact str_eq hP.2.2.1 h4.1.2.2.1 rfl (ns_st hP h3).2.2
theorem e_count (hP : PU tg n m p tt aq k cs cn u qn ob) (h1 : TY S R I t b n tg) (h2 : CG I ch sa na k cs cn) (h3 : ST I st ak rw m p tt aq) (h4 : SS I J st su ak le g p m u qn ob) (h5 : MD I y tp td am ks kn tg n m p tt aq k cs cn) {w : Int32} : (if w = 0 then I y 2 else if w = 1 then bcJ (fcM I td m) else if w = 2 then nI (stg (I y 9) (tq I td) m) else if w = 3 then (if I y 9 ≠ 0 ∧ QA (tq I td) m = -1 then nI (cU (fun u k => AB (tq I td) m (nI u) (bt (al m)) k none) 4) else 0) else if w = 4 then I y 12 else -1) = (if w = 0 then I t 1 else if w = 1 then bcJ (I st 4) else if w = 2 then (if I st 5 = 0 then 0 else I st 3 + 1) else if w = 3 then nI (cN (fun k => !decide (J (g 54) k = 0)) 32) else if w = 4 then I ch 2 else -1) := by
  have hPE := MD_PE h5
  obtain ⟨f, e, hT⟩ := h1.1
  have e0 : I y 2 = I t 1 := h5.1.trans hT.2.2.2.1.symm
  have e1 : fcM I td m = I st 4 := by rw [fcM_fcP, ← fcP_c hPE m (Nat.le_refl _), h3.2.2.2.1]
  have e2 : nI (stg (I y 9) (tq I td) m) = (if I st 5 = 0 then 0 else I st 3 + 1) := by rw [(ns_st hP h3).1, h5.2.2.2.2.1, ← stg_c hPE]
  have e3 : (if I y 9 ≠ 0 ∧ QA (tq I td) m = -1 then nI (cU (fun u k => AB (tq I td) m (nI u) (bt (al m)) k none) 4) else 0) = nI (cN (fun k => !decide (J (g 54) k = 0)) 32) := by
    have e : (fun u k => AB (tq I td) m (nI u) (bt (al m)) k none) = fun u k => AB p m (nI u) (bt (al m)) k none := funext fun u => funext fun k => (AB_c hPE _ _ _ _).symm
    rw [e, h5.2.2.2.2.1, ← QA_c hPE]
    exact cn_eq hP.2.2.1 h4.1.2.2.1 hP.2.2.2.1
  have e4 : I y 12 = I ch 2 := h5.2.2.2.2.2.1.trans h2.1.symm
  rw [e0, e1, e2, e3, e4]
end ANSW
