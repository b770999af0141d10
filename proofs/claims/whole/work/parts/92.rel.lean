/-! THE RELATION OF BOTH SIDES over what they have read: tape tg (n bytes), sentences p (m of them), told tt, question aq, changes cs, cn (k of them) -/
def PU (tg : Nat → Int32) (n m : Nat) (p : Nat → Nat → Int32) (tt : Int32) (aq : Nat → Int32) (k : Nat) (cs cn : Nat → Int32) (u qn : Nat) (ob : Option Nat) : Prop :=
  (∀ j, BY (tg j)) ∧ n ≤ 400 ∧ WT p m ∧ (tt = 0 → m = 0) ∧ k ≤ 50 ∧ (∀ j, j < k → ∃ i v, cs j = nI i ∧ i < m ∧ cn j = nI v ∧ v ≤ 999 ∧ (p i 0 = 3 → 2 ≤ v ∧ v ≤ 9)) ∧ (tt ≠ 0 → aq 1 = nI qn ∧ qn < 8 ∧ ((aq 2 = -1 ∧ ob = none) ∨ ∃ nb, nb < 8 ∧ aq 2 = nI nb ∧ ob = some nb ∧ nb ≠ qn) ∧ aq 3 = nI u ∧ u < 4) ∧ (tt = 0 ∨ tt = 1)
def TY (S : zS) (R : Nat → Nat → Option Nat) (I : Nat → Nat → Int32) (t b n : Nat) (tg : Nat → Int32) : Prop := (∃ f e, TP S R I t b n f e) ∧ I b = tg
def CG (I : Nat → Nat → Int32) (ch sa na k : Nat) (cs cn : Nat → Int32) : Prop := I ch 2 = nI k ∧ ∀ j, j < k → I sa j = cs j ∧ I na j = cn j
def ST (I : Nat → Nat → Int32) (st ak : Nat) (rw : Nat → Nat) (m : Nat) (p : Nat → Nat → Int32) (tt : Int32) (aq : Nat → Int32) : Prop := (∀ i w, I (rw i) w = p i w) ∧ I st 2 = nI m ∧ I st 3 = nI (ev p m) ∧ I st 4 = fcP p m ∧ I st 5 = tt ∧ (tt ≠ 0 → ∀ j, j < 5 → I ak j = aq j)
def SS (I : Nat → Nat → Int32) (J : Nat → Nat → Int64) (st su ak : Nat) (le g : Nat → Nat) (p : Nat → Nat → Int32) (m u qn : Nat) (ob : Option Nat) : Prop := SV I J st su ak le g p m u qn ob ∧ (J su 11 = 0 → I su 13 = -1) ∧ (¬ J su 11 = 0 → (I su 12 = -1 ∨ I su 12 = idM p (SBc p m (nI u) qn ob) (fcP p m) m) ∧ (I su 13 = -1 ∨ I su 13 = fwV p m (nI u) qn ob (fcP p m)))
def MD (I : Nat → Nat → Int32) (y tp td am ks kn : Nat) (tg : Nat → Int32) (n m : Nat) (p : Nat → Nat → Int32) (tt : Int32) (aq : Nat → Int32) (k : Nat) (cs cn : Nat → Int32) : Prop := I y 2 = nI n ∧ (∀ j, I tp j = tB (tg j)) ∧ I y 7 = nI m ∧ (∀ i, i < m → ∀ w, w < 7 → I td (7 * i + w) = p i w) ∧ I y 9 = tt ∧ I y 12 = nI k ∧ (∀ j, j < k → I ks j = cs j ∧ I kn j = cn j) ∧ (tt ≠ 0 → ∀ j, j < 5 → I am j = aq j)
def FC (lab : Nat → Nat) (I I' : Nat → Nat → Int32) : Prop := ∀ a, 100 ≤ lab a → I' a = I a
def FM (lab : Nat → Nat) (I I' : Nat → Nat → Int32) (J J' : Nat → Nat → Int64) : Prop := ∀ a, lab a < 100 → I' a = I a ∧ J' a = J a
section RELA
variable {lab : Nat → Nat} {c d : Nat} {S : zS} {I I' : Nat → Nat → Int32} {J J' : Nat → Nat → Int64} {R R' : Nat → Nat → Option Nat} {x t b rd ch sa na su lo fl st pa ak dr pa2 ak2 : Nat} {rw rw2 lw rs le g : Nat → Nat} {y tp td rm ra am ks kn ro ba be : Nat}
variable {tg aq cs cn : Nat → Int32} {n m k u qn : Nat} {p : Nat → Nat → Int32} {tt : Int32} {ob : Option Nat}
theorem lne {a b i j : Nat} (h : lab a = i) (q : lab b = j) (hij : i ≠ j) : a ≠ b := fun w => hij (h.symm.trans (w ▸ q))
theorem CI_c {es : List (Nat × (Nat → Int))} {T T' : Nat → Nat → Int64} {L : Nat → Int32} (h : CI es T L) (hT : ∀ j, j < 8 → T' j = T j) : CI es T' L := ⟨h.1, fun j hj hL => by
  have := h.2 j hj hL
  rw [hT j hj]
  exact this⟩
theorem SV_c (h : SV I J st su ak le g p m u qn ob) (h1 : I' su 9 = I su 9) (h2 : I' st = I st) (h3 : I' ak = I ak) (h4 : ∀ v, v < 4 → I' (le v) = I (le v)) (h5 : J' su 10 = J su 10 ∧ J' su 11 = J su 11) (h6 : ∀ i, i < 55 → i ≠ 51 → i ≠ 52 → ¬ (32 ≤ i ∧ i < 40) → J' (g i) = J (g i)) (hm : m ≤ 10) : SV I' J' st su ak le g p m u qn ob := by
  obtain ⟨a1, a2, a3, a4, a5, a6⟩ := h
  have e : csG I' ak p m = csG I ak p m := by unfold csG; rw [h3]
  refine ⟨h1.trans a1, fun q v hv => ?_, fun v k hv hk => ?_, ?_, fun i hi hp => ?_, ?_⟩
  · rw [h4 v hv]
    exact CI_c (a2 q v hv) (fun j hj => h6 _ (by omega) (by omega) (by omega) (by omega))
  · rw [h6 53 (by omega) (by omega) (by omega) (by omega), h6 54 (by omega) (by omega) (by omega) (by omega)]
    exact a3 v k hv hk
  · rw [h2, h5.1, h5.2, e]
    exact a4
  · rw [h6 (40 + i) (by omega) (by omega) (by omega) (by omega)]
    exact a5 i hi hp
  · rw [h2, e, h6 50 (by omega) (by omega) (by omega) (by omega)]
    exact a6
theorem TY_c (h : TY S R I t b n tg) (h1 : I' t = I t) (h2 : I' b = I b) : TY S R I' t b n tg := by
  obtain ⟨⟨f, e, q⟩, h3⟩ := h
  refine ⟨⟨f, e, ?_⟩, h2.trans h3⟩
  unfold TP at q ⊢
  rw [h1]; exact q
theorem CG_c (h : CG I ch sa na k cs cn) (h1 : I' ch = I ch) (h2 : I' sa = I sa) (h3 : I' na = I na) : CG I' ch sa na k cs cn := by
  unfold CG at h ⊢
  rw [h1, h2, h3]; exact h
theorem ST_c (h : ST I st ak rw m p tt aq) (h1 : I' st = I st) (h2 : I' ak = I ak) (h3 : ∀ i, I' (rw i) = I (rw i)) : ST I' st ak rw m p tt aq := by
  unfold ST at h ⊢
  rw [h1, h2]
  exact ⟨fun i w => by rw [h3 i]; exact h.1 i w, h.2⟩
theorem SS_c (h : SS I J st su ak le g p m u qn ob) (h1 : I' su = I su) (h2 : I' st = I st) (h3 : I' ak = I ak) (h4 : ∀ v, v < 4 → I' (le v) = I (le v)) (h5 : J' su = J su) (h6 : ∀ i, i < 55 → i ≠ 51 → i ≠ 52 → ¬ (32 ≤ i ∧ i < 40) → J' (g i) = J (g i)) (hm : m ≤ 10) : SS I' J' st su ak le g p m u qn ob := by
  refine ⟨SV_c h.1 (by rw [h1]) h2 h3 h4 ⟨by rw [h5], by rw [h5]⟩ h6 hm, ?_, ?_⟩
  · rw [h1, h5]; exact h.2.1
  · rw [h1, h5]; exact h.2.2
/-- the class's side under what the reference does -/
theorem CR_FM (hL : CL lab c d S R x t b rd ch sa na su lo fl st pa ak dr pa2 ak2 rw rw2 lw rs le g) (hF : FM lab I I' J J') (hm : m ≤ 10) (h1 : TY S R I t b n tg) (h2 : CG I ch sa na k cs cn) (h3 : ST I st ak rw m p tt aq) (h4 : SS I J st su ak le g p m u qn ob) : TY S R I' t b n tg ∧ CG I' ch sa na k cs cn ∧ ST I' st ak rw m p tt aq ∧ SS I' J' st su ak le g p m u qn ob := by
  obtain ⟨-, -, -, -, -, -, -, ⟨l1, l2, l3, l4, l5, l6, l7, l8⟩, ⟨l9, l10, l11⟩, -, l12, l13, hcd, -⟩ := hL
  have hc : c < 100 := by omega
  have q : ∀ a, lab a < 100 → I' a = I a := fun a h => (hF a h).1
  have q2 : ∀ a, lab a < 100 → J' a = J a := fun a h => (hF a h).2
  exact ⟨TY_c h1 (q t (by omega)) (q b (by omega)), CG_c h2 (q ch (by omega)) (q sa (by omega)) (q na (by omega)), ST_c h3 (q st (by omega)) (q ak (by omega)) (fun i => q _ (by rw [l11 i]; exact hc)), SS_c h4 (q su (by omega)) (q st (by omega)) (q ak (by omega)) (fun v hv => q _ (by rw [l12 v (by omega)]; decide)) (q2 su (by omega)) (fun i hi _ _ _ => q2 _ (by rw [l13 i hi]; decide)) hm⟩
theorem MD_c (h : MD I y tp td am ks kn tg n m p tt aq k cs cn) (h1 : ∀ w, w ≠ 0 → w ≠ 24 → I' y w = I y w) (h2 : I' tp = I tp) (h3 : I' td = I td) (h4 : I' am = I am) (h5 : I' ks = I ks) (h6 : I' kn = I kn) : MD I' y tp td am ks kn tg n m p tt aq k cs cn := by
  unfold MD at h ⊢
  rw [h1 2 (by decide) (by decide), h1 7 (by decide) (by decide), h1 9 (by decide) (by decide), h1 12 (by decide) (by decide), h2, h3, h4, h5, h6]
  exact h
/-- the reference's side under what the class does -/
theorem MD_FC (hL : ML lab S R y tp td rm ra am ks kn ro ba be) (hF : FC lab I I') (h : MD I y tp td am ks kn tg n m p tt aq k cs cn) : MD I' y tp td am ks kn tg n m p tt aq k cs cn := by
  obtain ⟨-, -, -, -, -, -, -, -, -, -, -, -, ⟨l1, l2, l3, l4, l5, l6, l7, l8, l9, l10, l11⟩⟩ := hL
  exact MD_c h (fun w _ _ => by rw [hF y (by omega)]) (hF _ (by omega)) (hF _ (by omega)) (hF _ (by omega)) (hF _ (by omega)) (hF _ (by omega))
/-- under its own: the mark of a throw, and what the questions write -/
theorem MD_0 (hL : ML lab S R y tp td rm ra am ks kn ro ba be) {v : Int32} (h : MD I y tp td am ks kn tg n m p tt aq k cs cn) : MD (zu I y 0 v) y tp td am ks kn tg n m p tt aq k cs cn ∧ FM lab I (zu I y 0 v) J J := by
  obtain ⟨-, -, -, -, -, -, -, -, -, -, -, -, ⟨l1, l2, l3, l4, l5, l6, l7, l8, l9, l10, l11⟩⟩ := hL
  refine ⟨MD_c h (fun w hw _ => zu_k hw) (zu_o (lne l2 l1 (by decide))) (zu_o (lne l3 l1 (by decide))) (zu_o (lne l5 l1 (by decide))) (zu_o (lne l7 l1 (by decide))) (zu_o (lne l8 l1 (by decide))), fun a ha => ⟨zu_o (fun q => by rw [q, l1] at ha; omega), rfl⟩⟩
theorem MD_FQ (hL : ML lab S R y tp td rm ra am ks kn ro ba be) (h : MD I y tp td am ks kn tg n m p tt aq k cs cn) (hQ : FQ (zu I y 0 0) I' J J' y ro ba be) : MD I' y tp td am ks kn tg n m p tt aq k cs cn ∧ FM lab I I' J J' := by
  obtain ⟨-, -, -, -, -, -, -, -, -, -, -, -, ⟨l1, l2, l3, l4, l5, l6, l7, l8, l9, l10, l11⟩⟩ := hL
  have e : ∀ a, a ≠ be → a ≠ y → I' a = I a := fun a h1 h2 => (hQ.1 a h1 h2).trans (zu_o h2)
  refine ⟨MD_c h (fun w h0 h24 => (hQ.2.1 w h24).trans (zu_k h0)) (e _ (lne l2 l11 (by decide)) (lne l2 l1 (by decide))) (e _ (lne l3 l11 (by decide)) (lne l3 l1 (by decide))) (e _ (lne l5 l11 (by decide)) (lne l5 l1 (by decide))) (e _ (lne l7 l11 (by decide)) (lne l7 l1 (by decide))) (e _ (lne l8 l11 (by decide)) (lne l8 l1 (by decide))), fun a ha => ⟨e a (fun q => by rw [q, l11] at ha; omega) (fun q => by rw [q, l1] at ha; omega), hQ.2.2 a (fun q => by rw [q, l10] at ha; omega) (fun q => by rw [q, l9] at ha; omega) (fun q => by rw [q, l1] at ha; omega)⟩⟩
/-- the reference's layouts -/
theorem ML_MB (hL : ML lab S R y tp td rm ra am ks kn ro ba be) : MB S R y ro ba be := by
  obtain ⟨h1, -, -, -, -, -, -, -, ⟨h2, h3⟩, ⟨h4, h5⟩, ⟨h6, h7⟩, h8, -⟩ := hL
  exact ⟨h1, h2, h4, h6, h3, h5, h7, h8⟩
theorem ML_TD (hL : ML lab S R y tp td rm ra am ks kn ro ba be) (hD : MD I y tp td am ks kn tg n m p tt aq k cs cn) (hm : m ≤ 10) : TD S R I y td m := ⟨hL.1, hL.2.2.1.1, hL.2.2.1.2, hD.2.2.1, hm⟩
theorem MD_PE (hD : MD I y tp td am ks kn tg n m p tt aq k cs cn) : PE p (fun i w => tdP I td i w) m := fun i hi w hw => (hD.2.2.2.1 i hi w (by omega)).symm
theorem ML_AK (hL : ML lab S R y tp td rm ra am ks kn ro ba be) (hD : MD I y tp td am ks kn tg n m p tt aq k cs cn) (hP : PU tg n m p tt aq k cs cn u qn ob) (ht : I y 9 ≠ 0) : AK S R I y am qn ob := by
  have ht : tt ≠ 0 := by rw [← hD.2.2.2.2.1]; exact ht
  have ha := hD.2.2.2.2.2.2.2 ht
  obtain ⟨q1, q2, q3, -⟩ := hP.2.2.2.2.2.2.1 ht
  exact ⟨hL.2.2.2.2.1.1, hL.2.2.2.2.1.2, (ha 1 (by omega)).trans q1, q2, by rw [ha 2 (by omega)]; exact q3⟩
/-- the sums have what they need -/
theorem ST_CS (hP : PU tg n m p tt aq k cs cn u qn ob) (h : ST I st ak rw m p tt aq) : CS I st ak rw p m u qn ob := by
  obtain ⟨h1, h2, h3, h4, h5, h6⟩ := h
  refine ⟨funext fun i => funext fun w => h1 i w, h2, hP.2.2.1, fun i hi => ?_, fun ht => ?_⟩
  · have e := gb_fcP (p := p) (i := i) hP.2.2.1.1
    rw [h4]
    have hm := hP.2.2.1.1
    have e2 := bit_iff (x := fcP p m) (i := i) (by omega)
    rw [e] at e2
    by_cases q : p i 0 < 5
    · rw [decide_eq_true (show i < m ∧ p i 0 < 5 from ⟨hi, q⟩)] at e2
      rw [decide_eq_true q, decide_eq_false (fun w => absurd (e2.mp w) (by decide))]; rfl
    · rw [decide_eq_false (fun w : i < m ∧ p i 0 < 5 => q w.2)] at e2
      rw [decide_eq_false q, decide_eq_true (e2.mpr rfl)]; rfl
  · rw [h5] at ht
    obtain ⟨q1, q2, q3, q4, q5⟩ := hP.2.2.2.2.2.2.1 ht
    have ha := h6 ht
    exact ⟨(ha 1 (by omega)).trans q1, q2, by rw [ha 2 (by omega)]; exact q3, (ha 3 (by omega)).trans q4, q5⟩
end RELA
