/-! WHAT IS SETTLED, by the reference -/
def qrow (na : Nat) (ob : Option Nat) : Nat → Int := match ob with
  | none => gr na na (-1) 0 1 0
  | some nb => gr na nb (-1) (-1) 1 0
def sd (ρ : Nat → Int) : Bool := decide (fiN ρ 8 0 = 8)
theorem fi_all {ρ : Nat → Int} (h : ∀ k, k < 8 → ρ k = 0) : fiN ρ 8 0 = 8 := by
  have h4 := fi_le ρ 8 0
  have h5 := fi_ne ρ 8 0
  by_cases w : fiN ρ 8 0 < 0 + 8
  · exact absurd (h _ (by omega)) (h5 w)
  · omega
theorem sd_iff {ρ : Nat → Int} : sd ρ = true ↔ ∀ k, k < 8 → ρ k = 0 := by
  unfold sd
  rw [decide_eq_true_eq]
  exact ⟨fun h k hk => fi_z ρ 8 0 (by omega) k (by omega) (by omega), fi_all⟩
theorem az_iff {r : Nat → Int64} : ∀ {n : Nat}, az r n = true ↔ ∀ k, k < n → r k = 0
  | 0 => ⟨fun _ k hk => absurd hk (by omega), fun _ => rfl⟩
  | n + 1 => by
    unfold az
    rw [Bool.and_eq_true, az_iff, decide_eq_true_eq]
    constructor
    · rintro ⟨h1, h2⟩ k hk
      by_cases q : k = n
      · rw [q]; exact h2
      · exact h1 k (by omega)
    · intro h
      exact ⟨fun k hk => h k (by omega), h n (by omega)⟩
theorem az_sd {r : Nat → Int64} {ρ : Nat → Int} (h : ∀ k, k < 8 → (r k = 0 ↔ ρ k = 0)) : az r 8 = sd ρ := by
  rw [Bool.eq_iff_iff, az_iff, sd_iff]
  exact ⟨fun w k hk => (h k hk).mp (w k hk), fun w k hk => (h k hk).mpr (w k hk)⟩
theorem q0_eQ {f : Nat → Int64} {na : Nat} {ob : Option Nat} (hna : na < 8) (hob : ∀ nb, ob = some nb → nb < 8 ∧ nb ≠ na) : eQ (q0 f na ob, 0, 1) = qrow na ob := by
  funext k
  have z1 : -(1 : Int64).toInt = -1 := by decide
  have z0 : -(0 : Int64).toInt = 0 := by decide
  unfold eQ qrow
  cases ob with
  | none =>
    unfold gr q0
    dsimp only
    rw [if_neg (show ¬ (none : Option Nat) = some k from fun v => nomatch v)]
    by_cases k8 : k < 8
    · rw [if_pos k8, if_neg (show ¬ k = 8 by omega), if_neg (show ¬ k = 9 by omega)]
      by_cases q : k = na
      · rw [if_pos q, if_pos q, if_pos q, z1]; rfl
      · rw [if_neg q, if_neg q, if_neg q, if_pos (by omega), z0]; rfl
    · rw [if_neg k8, if_neg (show ¬ k = na by omega)]
      by_cases q8 : k = 8
      · rw [if_pos q8, if_pos q8, if_neg (show ¬ k = 9 by omega), if_neg (show ¬ k = na by omega)]; rfl
      · rw [if_neg q8, if_neg q8, if_neg (show ¬ k = na by omega)]
        by_cases q9 : k = 9
        · rw [if_pos q9, if_pos q9]; rfl
        · rw [if_neg q9, if_neg q9]; rfl
  | some nb =>
    obtain ⟨h1, h2⟩ := hob nb rfl
    unfold gr q0
    dsimp only
    by_cases k8 : k < 8
    · rw [if_pos k8, if_neg (show ¬ k = 8 by omega), if_neg (show ¬ k = 9 by omega)]
      by_cases q2 : k = nb
      · rw [if_pos (show some nb = some k by rw [q2]), if_pos q2, if_neg (show ¬ k = na by omega), z1]; rfl
      · rw [if_neg (show ¬ some nb = some k from fun v => q2 (by injection v with v; exact v.symm)), if_neg q2]
        by_cases q : k = na
        · rw [if_pos q, if_pos q, z1]; rfl
        · rw [if_neg q, if_neg q, if_pos (by omega), z0]; rfl
    · rw [if_neg k8, if_neg (show ¬ k = na by omega), if_neg (show ¬ k = nb by omega)]
      by_cases q8 : k = 8
      · rw [if_pos q8, if_pos q8, if_neg (show ¬ k = 9 by omega)]; rfl
      · rw [if_neg q8, if_neg q8]
        by_cases q9 : k = 9
        · rw [if_pos q9, if_pos q9]; rfl
        · rw [if_neg q9, if_neg q9]; rfl
/-- settles over whole numbers -/
theorem set_es {k : Int} {e : Nat} {I : Nat → Nat → Int32} {J : Nat → Nat → Int64} {x ba be : Nat} {es : List (Nat × (Nat → Int))} (hM : RM I J x ba be es) (hr : RI k es) (hK : KC k e) (hlen : es.length + e ≤ 11) {na : Nat} {ob : Option Nat} (hna : na < 8) (hob : ∀ nb, ob = some nb → nb < 8 ∧ nb ≠ na) (f : Nat → Int64) :
    (∀ j, j < es.length → ¬ (rdS (fun j k => J ba (9 * j + k)) (bgI I be) (q0 f na ob) j).1 (bgI I be j) = 0 → ¬ gS (rdS (fun j k => J ba (9 * j + k)) (bgI I be) (q0 f na ob) j) (fun k => J ba (9 * j + k)) ((rdS (fun j k => J ba (9 * j + k)) (bgI I be) (q0 f na ob) j).1 (bgI I be j)) (J ba (9 * j + bgI I be j)) = 0) ∧
    az (rdS (fun j k => J ba (9 * j + k)) (bgI I be) (q0 f na ob) es.length).1 8 = sd (redu es (qrow na ob)) ∧ (rdS (fun j k => J ba (9 * j + k)) (bgI I be) (q0 f na ob) es.length).2.1.toInt = redu es (qrow na ob) 9 ∧ (rdS (fun j k => J ba (9 * j + k)) (bgI I be) (q0 f na ob) es.length).2.2.toInt = redu es (qrow na ob) 8 ∧ redu es (qrow na ob) 8 ≠ 0 := by
  obtain ⟨rb1, rb2⟩ := rm_rb hM hr
  have hQ := q0_eQ (f := f) hna hob
  have key : eQ (rdS (fun j k => J ba (9 * j + k)) (bgI I be) (q0 f na ob) es.length) = redu es (qrow na ob) ∧ redu es (qrow na ob) 8 ≠ 0 ∧ (∀ i, i < es.length → ¬ (rdS (fun j k => J ba (9 * j + k)) (bgI I be) (q0 f na ob) i).1 (bgI I be i) = 0 → ¬ gS (rdS (fun j k => J ba (9 * j + k)) (bgI I be) (q0 f na ob) i) (fun k => J ba (9 * i + k)) ((rdS (fun j k => J ba (9 * j + k)) (bgI I be) (q0 f na ob) i).1 (bgI I be i)) (J ba (9 * i + bgI I be i)) = 0) := by
    cases ob with
    | none =>
      have := rd_q hK hr hlen hna hna (Or.inr ⟨rfl, rfl⟩) rb1 hQ es.length (Nat.le_refl _)
      rw [List.take_length] at this
      exact this
    | some nb =>
      obtain ⟨h1, h2⟩ := hob nb rfl
      have := rd_q hK hr hlen hna h1 (Or.inl ⟨Ne.symm h2, rfl⟩) rb1 hQ es.length (Nat.le_refl _)
      rw [List.take_length] at this
      exact this
  obtain ⟨k1, k2, k3⟩ := key
  refine ⟨k3, az_sd (fun j hj => ?_), ?_, ?_, k2⟩
  · rw [← k1, eQ_n hj, i64_0]; omega
  · rw [← k1, eQ_9]
  · rw [← k1, eQ_8]
/-- what a question leaves as it was -/
def FQ (I I' : Nat → Nat → Int32) (J J' : Nat → Nat → Int64) (x ro ba be : Nat) : Prop := (∀ a, a ≠ be → a ≠ x → I' a = I a) ∧ (∀ w, w ≠ 24 → I' x w = I x w) ∧ (∀ a, a ≠ ro → a ≠ ba → a ≠ x → J' a = J a)
section FQS
variable {I I' I'' : Nat → Nat → Int32} {J J' J'' : Nat → Nat → Int64} {x ro ba be td ak m : Nat} {S : zS} {R : Nat → Nat → Option Nat}
theorem FQ.tr (h : FQ I I' J J' x ro ba be) (g : FQ I' I'' J' J'' x ro ba be) : FQ I I'' J J'' x ro ba be := ⟨fun a h1 h2 => (g.1 a h1 h2).trans (h.1 a h1 h2), fun w hw => (g.2.1 w hw).trans (h.2.1 w hw), fun a h1 h2 h3 => (g.2.2 a h1 h2 h3).trans (h.2.2 a h1 h2 h3)⟩
theorem FQ.rf : FQ I I J J x ro ba be := ⟨fun _ _ _ => rfl, fun _ _ => rfl, fun _ _ _ _ => rfl⟩
theorem FR.q (h : FR I I' J J' x ro ba be) : FQ I I' J J' x ro ba be := ⟨h.1, h.2.1, fun a h1 h2 _ => h.2.2 a h1 h2⟩
theorem FQ.ms {r : Nat → Int64} {t b : Int64} : FQ I I J (mS J ro x r t b) x ro ba be := ⟨fun _ _ _ => rfl, fun _ _ => rfl, fun a h1 _ h3 => by unfold mS; rw [zu_o h3, zu_o h3, zr_a h1]⟩
theorem FQ.tds (h : FQ I I' J J' x ro ba be) (h1 : td ≠ be) (h2 : td ≠ x) : (fun i w => tdP I' td i w) = fun i w => tdP I td i w := by
  funext i w
  unfold tdP
  rw [h.1 td h1 h2]
theorem FQ.TD (h : FQ I I' J J' x ro ba be) (hD : TD S R I x td m) : TD S R I' x td m := ⟨hD.1, hD.2.1, hD.2.2.1, by rw [h.2.1 7 (by decide)]; exact hD.2.2.2.1, hD.2.2.2.2⟩
theorem FQ.pt (h : FQ I I' J J' x ro ba be) {v : Int64} : FQ I I' J (zu J' x 25 v) x ro ba be := ⟨h.1, h.2.1, fun a h1 h2 h3 => by rw [zu_o h3]; exact h.2.2 a h1 h2 h3⟩
end FQS
/-- what is asked -/
def AK (S : zS) (R : Nat → Nat → Option Nat) (I : Nat → Nat → Int32) (x ak na : Nat) (ob : Option Nat) : Prop := R x 5 = some ak ∧ zA S ak 9 5 ∧ I ak 1 = nI na ∧ na < 8 ∧ ((I ak 2 = -1 ∧ ob = none) ∨ ∃ nb, nb < 8 ∧ I ak 2 = nI nb ∧ ob = some nb ∧ nb ≠ na)
theorem AK.ob {S : zS} {R : Nat → Nat → Option Nat} {I : Nat → Nat → Int32} {x ak na : Nat} {ob : Option Nat} (h : AK S R I x ak na ob) : ∀ nb, ob = some nb → nb < 8 ∧ nb ≠ na := by
  intro nb e
  rcases h.2.2.2.2 with ⟨_, w⟩ | ⟨n, h1, _, h3, h4⟩
  · rw [w] at e; cases e
  · rw [h3] at e; injection e with e; subst e; exact ⟨h1, h4⟩
theorem ak_ne {S : zS} {R : Nat → Nat → Option Nat} {I : Nat → Nat → Int32} {x ro ba be ak na : Nat} {ob : Option Nat} (hm : MB S R x ro ba be) (h : AK S R I x ak na ob) : ak ≠ be ∧ ak ≠ x := ⟨fun q => absurd (h.2.1.2.2.symm.trans (q ▸ hm.2.2.2.2.2.2.1.2.2)) (by decide), fun q => absurd (h.2.1.2.1.symm.trans (q ▸ hm.1.2)) (by decide)⟩
theorem AK.fq {S : zS} {R : Nat → Nat → Option Nat} {I I' : Nat → Nat → Int32} {J J' : Nat → Nat → Int64} {x ro ba be ak na : Nat} {ob : Option Nat} (hm : MB S R x ro ba be) (h : AK S R I x ak na ob) (hF : FQ I I' J J' x ro ba be) : AK S R I' x ak na ob := by
  obtain ⟨n1, n2⟩ := ak_ne hm h
  have e := hF.1 ak n1 n2
  obtain ⟨h1, h2, h3, h4, h5⟩ := h
  exact ⟨h1, h2, by rw [e]; exact h3, h4, by rw [e]; exact h5⟩
def AB (p : Nat → Nat → Int32) (m : Nat) (un : Int32) (st : Nat → Bool) (na : Nat) (ob : Option Nat) : Bool := (gth p m un st m).2 && sd (redu (gth p m un st m).1 (qrow na ob))
def qFr (q : Nat → Bool) : Nat → Nat → Int32
  | 0, _ => -1
  | d + 1, i => if q i = true then nI i else qFr q d (i + 1)
def QA (p : Nat → Nat → Int32) (m : Nat) : Int32 := qFr (fun i => decide (p i 0 < 5) && !(gth p m (p i 3) (bt ((1 : Int32) <<< (nI (i + 1) &&& 31) - 1)) m).2) m 0
theorem nf_m {p : Nat → Nat → Int32} {m : Nat} (h : WT p m) {un : Int32} {st : Nat → Bool} : (gth p m un st m).1.length + ev p m ≤ 10 := by
  have h1 := (gth_ri h un st m (Nat.le_refl _)).2
  have h2 := ev_nf p m
  have h3 := h.1
  omega

set_option maxHeartbeats 4000000 in
set_option maxRecDepth 100000 in
theorem c_X7_quarrelAt (l : Launch) {E : zE} {S : zS} {I : Nat → Nat → Int32} {J : Nat → Nat → Int64} {R : Nat → Nat → Option Nat} {x ro ba be : Nat} (hm : MB S R x ro ba be) {td m : Nat} (hD : TD S R I x td m) (hW : WT (fun i w => tdP I td i w) m) : zIP l yX7_quarrelAt wsX7_quarrelAt rmX7_quarrelAt E S [.ref x] (I, J, R) (fun r ν => ∃ I' J', ν = (I', J', R) ∧ r = QA (fun i w => tdP I td i w) m ∧ FQ I I' J J' x ro ba be) := by
  refine z_metIP (cc := cX7_quarrelAt) (maxL := 2) (ty := .int) (by decide) rfl (Nat.le_of_ble_eq_true rfl) (fun X h ret => ?_)
  show zV X E S 0 0 (I, J, R) 0 _ []
  obtain ⟨m1, m2, m3, m4, m5, m6, m7, m8⟩ := id hm
  obtain ⟨n1, n2⟩ := td_ne hm hD
  generalize hPP : (fun i w => tdP I td i w) = P at *
  have LL : ∀ (d i : Nat) (I1 : Nat → Nat → Int32) (J1 : Nat → Nat → Int64), i + d = m → FQ I I1 J J1 x ro ba be → qFr (fun i => decide (P i 0 < 5) && !(gth P m (P i 3) (bt ((1 : Int32) <<< (nI (i + 1) &&& 31) - 1)) m).2) d i = QA P m → zV X E S 0 0 (I1, J1, R) 2 [(0, .ref x), (1, .int (nI i))] [] := by
    intro d
    induction d with
    | zero =>
      intro i I1 J1 hi hF hq
      have e : i = m := by omega
      subst e
      obtain ⟨d1, d2, d3, d4, d5⟩ := hF.TD hD
      refine z_iload_n h dX7_quarrelAt_2 rfl rfl ?_
      refine z_aload_n h dX7_quarrelAt_3 rfl rfl ?_
      refine z_getI h (by assumption) rfl kw7 7 (by decide) rfl kf_RX7_205 dX7_quarrelAt_4 ?_
      rw [d4]
      refine z_icmp_ge h 46 dX7_quarrelAt_7 (by decide) (fun c7 => ?_) (fun c7 => ?_)
      · refine z_iconst (v := -1) h dX7_quarrelAt_46 (by decide) ?_
        exact ret ⟨I1, J1, rfl, hq, hF⟩ dX7_quarrelAt_47 rfl
      · exact absurd (nI_le (Nat.le_refl _) (by omega)) c7
    | succ d ih =>
      intro i I1 J1 hi hF hq
      have hD1 := hF.TD hD
      have hP1 : (fun i w => tdP I1 td i w) = P := by rw [hF.tds n1 n2, hPP]
      have hP2 : ∀ j w, tdP I1 td j w = P j w := fun j w => by rw [← hP1]
      obtain ⟨d1, d2, d3, d4, d5⟩ := id hD1
      unfold qFr at hq
      refine z_iload_n h dX7_quarrelAt_2 rfl rfl ?_
      refine z_aload_n h dX7_quarrelAt_3 rfl rfl ?_
      refine z_getI h (by assumption) rfl kw7 7 (by decide) rfl kf_RX7_205 dX7_quarrelAt_4 ?_
      rw [d4]
      refine z_icmp_ge h 46 dX7_quarrelAt_7 (by decide) (fun c7 => ?_) (fun c7 => ?_)
      · exact absurd (nle (by omega) (by omega) c7) (by omega)
      · refine z_aload_n h dX7_quarrelAt_10 rfl rfl ?_
        refine z_iload_n h dX7_quarrelAt_11 rfl rfl ?_
        refine z_callVI h (c_X7_isFact l d1 d2 d3 (by omega)) (by assumption) rfl gm_RX7_235 rfl ⟨rfl, rfl⟩ 1 (by decide +kernel) ⟨by decide, by decide⟩ rfl rfl (Nat.le_of_ble_eq_true rfl) ⟨Nat.zero_le _, Nat.zero_le _⟩ dX7_quarrelAt_12 ?_
        refine z_if_eq h 40 dX7_quarrelAt_15 (by decide) (fun c15 => ?_) (fun c15 => ?_)
        · rw [hP2] at c15
          refine z_iinc h dX7_quarrelAt_40 rfl (nI_1 i) (by decide) ?_
          refine z_goto h 2 dX7_quarrelAt_43 (by decide) ?_
          rw [b2i_0.mp c15, Bool.false_and, if_neg (by decide)] at hq
          exact z_lk (ih (i + 1) I1 J1 (by omega) hF hq) ⟨rfl, rfl, trivial⟩
        · rw [hP2] at c15
          rw [b2i_n0.mp c15, Bool.true_and] at hq
          refine z_aload_n h dX7_quarrelAt_18 rfl rfl ?_
          refine z_aload_n h dX7_quarrelAt_19 rfl rfl ?_
          refine z_iload_n h dX7_quarrelAt_20 rfl rfl ?_
          refine z_iconst (v := 3) h dX7_quarrelAt_21 (by decide) ?_
          refine z_callVI h (c_X7_of l d1 d2 d3 (w := 3) (by omega)) (by assumption) rfl gm_RX7_214 rfl ⟨rfl, rfl⟩ 2 (by decide +kernel) ⟨by decide, by decide⟩ rfl rfl (Nat.le_of_ble_eq_true rfl) ⟨Nat.zero_le _, Nat.zero_le _⟩ dX7_quarrelAt_22 ?_
          refine z_iconst (v := 1) h dX7_quarrelAt_25 (by decide) ?_
          refine z_iload_n h dX7_quarrelAt_26 rfl rfl ?_
          refine z_iconst (v := 1) h dX7_quarrelAt_27 (by decide) ?_
          refine z_iadd h dX7_quarrelAt_28 ?_
          rw [nI_1]
          refine z_ishl h dX7_quarrelAt_29 ?_
          refine z_iconst (v := 1) h dX7_quarrelAt_30 (by decide) ?_
          refine z_isub h dX7_quarrelAt_31 ?_
          rw [hP2]
          refine z_callVIP h (c_X7_gather l hm hD1 (by rw [hP1]; exact hW)) (by assumption) rfl gm_RX7_251 rfl ⟨rfl, rfl⟩ 2 (by decide +kernel) ⟨by decide, by decide⟩ rfl rfl (Nat.le_of_ble_eq_true rfl) ⟨Nat.zero_le _, Nat.zero_le _⟩ dX7_quarrelAt_32 (fun r ν hν => ?_)
          rw [hP1] at hν
          obtain ⟨I2, J2, rfl, hr, hF2, hM2⟩ := hν
          subst hr
          refine z_if_ne h 40 dX7_quarrelAt_35 (by decide) (fun c35 => ?_) (fun c35 => ?_)
          · have c35 := b2i_n0.mp c35
            rw [c35, if_neg (by decide)] at hq
            refine z_iinc h dX7_quarrelAt_40 rfl (nI_1 i) (by decide) ?_
            refine z_goto h 2 dX7_quarrelAt_43 (by decide) ?_
            exact z_lk (ih (i + 1) I2 J2 (by omega) (hF.tr hF2.q) hq) ⟨rfl, rfl, trivial⟩
          · have c35 := b2i_0.mp c35
            rw [c35, if_pos (by decide)] at hq
            refine z_iload_n h dX7_quarrelAt_38 rfl rfl ?_
            exact ret ⟨I2, J2, rfl, hq, hF.tr hF2.q⟩ dX7_quarrelAt_39 rfl
  refine z_iconst (v := 0) h dX7_quarrelAt_0 (by decide) ?_
  refine z_istore_n h dX7_quarrelAt_1 rfl (by decide) ?_
  exact z_lk (LL m 0 I J (by omega) FQ.rf rfl) ⟨rfl, rfl, trivial⟩

set_option maxHeartbeats 4000000 in
set_option maxRecDepth 100000 in
theorem c_X7_quarrel (l : Launch) {E : zE} {S : zS} {I : Nat → Nat → Int32} {J : Nat → Nat → Int64} {R : Nat → Nat → Option Nat} {x ro ba be : Nat} (hm : MB S R x ro ba be) {td m : Nat} (hD : TD S R I x td m) (hW : WT (fun i w => tdP I td i w) m) : zIP l yX7_quarrel wsX7_quarrel rmX7_quarrel E S [.ref x] (I, J, R) (fun r ν => ∃ I' J', ν = (I', J', R) ∧ r = QA (fun i w => tdP I td i w) m ∧ FQ (zu I x 0 0) I' J J' x ro ba be) := by
  refine z_metIP (cc := cX7_quarrel) (maxL := 1) (ty := .int) (by decide) rfl (Nat.le_of_ble_eq_true rfl) (fun X h ret => ?_)
  show zV X E S 0 0 (I, J, R) 0 _ []
  obtain ⟨n1, n2⟩ := td_ne hm hD
  obtain ⟨d1, d2, d3, d4, d5⟩ := id hD
  have hF0 : FQ (zu I x 0 0) (zu I x 0 0) J J x ro ba be := FQ.rf
  have hP0 : (fun i w => tdP (zu I x 0 0) td i w) = fun i w => tdP I td i w := by funext i w; unfold tdP; rw [zu_o n2]
  have hD0 : TD S R (zu I x 0 0) x td m := ⟨d1, d2, d3, by rw [zu_k (by decide)]; exact d4, d5⟩
  refine z_aload_n h dX7_quarrel_0 rfl rfl ?_
  refine z_iconst (v := 0) h dX7_quarrel_1 (by decide) ?_
  refine z_putI h (by assumption) rfl kw7 0 (by decide) rfl rfl (rfl) (rfl) kf_RX7_42 dX7_quarrel_2 ?_
  refine z_aload_n h dX7_quarrel_5 rfl rfl ?_
  refine z_callVIP h (c_X7_quarrelAt l hm hD0 (by rw [hP0]; exact hW)) (by assumption) rfl gm_RX7_255 rfl ⟨rfl, rfl⟩ 0 (by decide +kernel) ⟨by decide, by decide⟩ rfl rfl (Nat.le_of_ble_eq_true rfl) ⟨Nat.zero_le _, Nat.zero_le _⟩ dX7_quarrel_6 (fun r ν hν => ?_)
  rw [hP0] at hν
  obtain ⟨I2, J2, rfl, hr, hF2⟩ := hν
  exact ret ⟨I2, J2, rfl, hr, hF2⟩ dX7_quarrel_9 rfl

set_option maxHeartbeats 4000000 in
set_option maxRecDepth 100000 in
theorem c_X7_answersBy (l : Launch) {E : zE} {S : zS} {I : Nat → Nat → Int32} {J : Nat → Nat → Int64} {R : Nat → Nat → Option Nat} {x ro ba be : Nat} (hm : MB S R x ro ba be) {td m : Nat} (hD : TD S R I x td m) (hW : WT (fun i w => tdP I td i w) m) {ak na : Nat} {ob : Option Nat} (hQ : AK S R I x ak na ob) {set : Int32} : zIP l yX7_answersBy wsX7_answersBy rmX7_answersBy E S [.ref x, .int set] (I, J, R) (fun r ν => ∃ I' J', ν = (I', J', R) ∧ r = b2i (AB (fun i w => tdP I td i w) m (I ak 3) (bt set) na ob) ∧ FQ I I' J J' x ro ba be ∧ (r ≠ 0 → (J' x 25).toInt = redu (gth (fun i w => tdP I td i w) m (I ak 3) (bt set) m).1 (qrow na ob) 9 ∧ (J' x 26).toInt = redu (gth (fun i w => tdP I td i w) m (I ak 3) (bt set) m).1 (qrow na ob) 8 ∧ redu (gth (fun i w => tdP I td i w) m (I ak 3) (bt set) m).1 (qrow na ob) 8 ≠ 0)) := by
  refine z_metIP (cc := cX7_answersBy) (maxL := 2) (ty := .boolean) (by decide) rfl (Nat.le_of_ble_eq_true rfl) (fun X h ret => ?_)
  show zV X E S 0 0 (I, J, R) 0 _ []
  obtain ⟨m1, m2, m3, m4, m5, m6, m7, m8⟩ := id hm
  obtain ⟨n1, n2⟩ := td_ne hm hD
  generalize hPP : (fun i w => tdP I td i w) = P at *
  obtain ⟨q1, q2, q3, q4, q5⟩ := id hQ
  obtain ⟨d1, d2, d3, d4, d5⟩ := id hD
  have hK := kk_KC (p := P) hW.1
  refine z_aload_n h dX7_answersBy_0 rfl rfl ?_
  refine z_aload_n h dX7_answersBy_1 rfl rfl ?_
  refine z_getR h (by assumption) rfl kw7 5 (by decide) rfl (by assumption) kf_RX7_20 dX7_answersBy_2 ?_
  refine z_iconst (v := 3) h dX7_answersBy_5 (by decide) ?_
  refine z_iald h (by assumption) (zix_c _ (j := 3) rfl (by decide) (by decide)) dX7_answersBy_6 ?_
  refine z_iload_n h dX7_answersBy_7 rfl rfl ?_
  refine z_callVIP h (c_X7_gather l hm hD (by rw [hPP]; exact hW)) (by assumption) rfl gm_RX7_251 rfl ⟨rfl, rfl⟩ 2 (by decide +kernel) ⟨by decide, by decide⟩ rfl rfl (Nat.le_of_ble_eq_true rfl) ⟨Nat.zero_le _, Nat.zero_le _⟩ dX7_answersBy_8 (fun r ν hν => ?_)
  rw [hPP] at hν
  obtain ⟨I2, J2, rfl, hr, hF2, hM2⟩ := hν
  subst hr
  have hri := (gth_ri hW (I ak 3) (bt set) m (Nat.le_refl _)).1
  have hlen : (gth P m (I ak 3) (bt set) m).1.length + ev P m ≤ 11 := by have := nf_m hW (un := I ak 3) (st := bt set); omega
  have hQ2 := hQ.fq hm hF2.q
  obtain ⟨v1, v2, v3, v4, v5⟩ := id hQ2
  have eak : I2 ak = I ak := hF2.1 ak (ak_ne hm hQ).1 (ak_ne hm hQ).2
  refine z_if_eq h 37 dX7_answersBy_11 (by decide) (fun c11 => ?_) (fun c11 => ?_)
  · have c11 := b2i_0.mp c11
    refine z_iconst (v := 0) h dX7_answersBy_37 (by decide) ?_
    first
      | exact ret ⟨_, _, rfl, by unfold AB; rw [c11, Bool.false_and]; rfl, hF2.q, fun w => absurd w (by decide)⟩ dX7_answersBy_38 rfl
      | exact ret ⟨_, _, rfl, by unfold AB; rw [c30, Bool.and_false]; rfl, hF2.q.tr FQ.ms, fun w => absurd w (by decide)⟩ dX7_answersBy_38 rfl
      | exact ret ⟨_, _, rfl, by unfold AB; rw [c30, c11]; rfl, hF2.q.tr FQ.ms, fun _ => ⟨by rw [mS_t]; exact hset.2.2.1, by rw [mS_b]; exact hset.2.2.2.1, hset.2.2.2.2⟩⟩ dX7_answersBy_38 rfl
  · have c11 := b2i_n0.mp c11
    refine z_aload_n h dX7_answersBy_14 rfl rfl ?_
    refine z_aload_n h dX7_answersBy_15 rfl rfl ?_
    refine z_getR h (by assumption) rfl kw7 5 (by decide) rfl (by assumption) kf_RX7_20 dX7_answersBy_16 ?_
    refine z_iconst (v := 1) h dX7_answersBy_19 (by decide) ?_
    refine z_iald h (by assumption) (zix_c _ (j := 1) rfl (by decide) (by decide)) dX7_answersBy_20 ?_
    refine z_aload_n h dX7_answersBy_21 rfl rfl ?_
    refine z_getR h (by assumption) rfl kw7 5 (by decide) rfl (by assumption) kf_RX7_20 dX7_answersBy_22 ?_
    refine z_iconst (v := 2) h dX7_answersBy_25 (by decide) ?_
    refine z_iald h (by assumption) (zix_c _ (j := 2) rfl (by decide) (by decide)) dX7_answersBy_26 ?_
    rw [v3]
    have hset := set_es hM2 hri hK hlen v4 hQ2.ob (J2 ro)
    have hb : (I2 ak 2 = -1 ∧ ob = none) ∨ ∃ nb, nb < 8 ∧ I2 ak 2 = nI nb ∧ ob = some nb := by
      rcases v5 with w | ⟨nb, w1, w2, w3, w4⟩
      · exact Or.inl w
      · exact Or.inr ⟨nb, w1, w2, w3⟩
    refine z_callVI h (c_X7_settles l hm hM2.1 (ri_8 hri) (rm_rb hM2 hri).2 v4 hb hset.1) (by assumption) rfl gm_RX7_258 rfl ⟨rfl, rfl⟩ 2 (by decide +kernel) ⟨by decide, by decide⟩ rfl rfl (Nat.le_of_ble_eq_true rfl) ⟨Nat.zero_le _, Nat.zero_le _⟩ dX7_answersBy_27 ?_
    rw [hset.2.1]
    refine z_if_eq h 37 dX7_answersBy_30 (by decide) (fun c30 => ?_) (fun c30 => ?_)
    · have c30 := b2i_0.mp c30
      refine z_iconst (v := 0) h dX7_answersBy_37 (by decide) ?_
      first
        | exact ret ⟨_, _, rfl, by unfold AB; rw [c11, Bool.false_and]; rfl, hF2.q, fun w => absurd w (by decide)⟩ dX7_answersBy_38 rfl
        | exact ret ⟨_, _, rfl, by unfold AB; rw [c30, Bool.and_false]; rfl, hF2.q.tr FQ.ms, fun w => absurd w (by decide)⟩ dX7_answersBy_38 rfl
        | exact ret ⟨_, _, rfl, by unfold AB; rw [c30, c11]; rfl, hF2.q.tr FQ.ms, fun _ => ⟨by rw [mS_t]; exact hset.2.2.1, by rw [mS_b]; exact hset.2.2.2.1, hset.2.2.2.2⟩⟩ dX7_answersBy_38 rfl
    · have c30 := b2i_n0.mp c30
      refine z_iconst (v := 1) h dX7_answersBy_33 (by decide) ?_
      refine z_goto h 38 dX7_answersBy_34 (by decide) ?_
      first
        | exact ret ⟨_, _, rfl, by unfold AB; rw [c11, Bool.false_and]; rfl, hF2.q, fun w => absurd w (by decide)⟩ dX7_answersBy_38 rfl
        | exact ret ⟨_, _, rfl, by unfold AB; rw [c30, Bool.and_false]; rfl, hF2.q.tr FQ.ms, fun w => absurd w (by decide)⟩ dX7_answersBy_38 rfl
        | exact ret ⟨_, _, rfl, by unfold AB; rw [c30, c11]; rfl, hF2.q.tr FQ.ms, fun _ => ⟨by rw [mS_t]; exact hset.2.2.1, by rw [mS_b]; exact hset.2.2.2.1, hset.2.2.2.2⟩⟩ dX7_answersBy_38 rfl
