/-! ANSWERS AND AMOUNTS, by the reference -/
def al (m : Nat) : Int32 := (1 : Int32) <<< (nI m &&& 31) - 1
def HA (t : Int32) (p : Nat → Nat → Int32) (m : Nat) (un : Int32) (na : Nat) (ob : Option Nat) : Bool := decide (t ≠ 0) && decide (QA p m = -1) && AB p m un (bt (al m)) na ob
def val (w : Int32) (ρ : Nat → Int) (G : Int) : Int := if w = 0 then (if 0 ≤ ρ 8 then ρ 9 + ρ 8 * G else -(ρ 9 + ρ 8 * G)) else (if 0 ≤ ρ 8 then ρ 8 else -(ρ 8))
theorem pB_le {k : Int} {es : List (Nat × (Nat → Int))} {t : Nat → Nat} {z : Nat → Int} {C : Nat → Nat → Int} {D M : Int} {e : Nat → Int} (hp : Pot k es t z C D M e) (u : Nat) : pB t M u ≤ 90 ^ 4 := by
  unfold pB
  have c1 := cn_le2 (t := t) (show 8 ≠ 9 by decide) 8
  split
  · refine sq_le (by decide) ?_
    have h1 := hp.2.2.2.2.2.2.2.1
    have h2 := p90_mono (show cn t 8 8 ≤ 8 by omega)
    have q44 : (90 : Int) ^ 4 * 90 ^ 4 = 90 ^ 8 := by decide
    omega
  · have c2 := cn_le2 (t := t) (show t u ≠ t u + 1 by omega) 8
    have h2 := p9_mono (show cn t (t u) 8 - 1 ≤ 7 by omega)
    have : (9 : Int) ^ 7 ≤ 90 ^ 4 := by decide
    omega
theorem qrow_prim {na : Nat} {ob : Option Nat} (hna : na < 8) (hob : ∀ nb, ob = some nb → nb < 8 ∧ nb ≠ na) : prim 10 (qrow na ob) := by
  cases ob with
  | none => exact gr_prim (a := na) (b := na) (α := -1) (β := 0) (σ := 1) (γ := 0) hna rfl (Or.inr rfl)
  | some nb => exact gr_prim (a := na) (b := nb) (α := -1) (β := -1) (σ := 1) (γ := 0) hna rfl (Or.inl (Ne.symm (hob nb rfl).2))
theorem q_bound {k : Int} {es : List (Nat × (Nat → Int))} (hk : 0 ≤ k) (hk2 : k ≤ 99900) (h : RI k es) {na : Nat} {ob : Option Nat} (hna : na < 8) (hob : ∀ nb, ob = some nb → nb < 8 ∧ nb ≠ na) (hs : sd (redu es (qrow na ob)) = true) : ab (redu es (qrow na ob) 8) ≤ 1000000000 ∧ ab (redu es (qrow na ob) 9) ≤ 1000000000000000 ∧ Nat.gcd (redu es (qrow na ob) 9).natAbs (redu es (qrow na ob) 8).natAbs = 1 := by
  have hz := sd_iff.mp hs
  have hpr := (redu_spec h.1 (qrow_prim hna hob)).1
  have key : ∃ B : Int, 0 ≤ B ∧ B ≤ 2 * 90 ^ 4 ∧ BR k B (redu es (qrow na ob)) := by
    obtain ⟨t, z, C, D, M, e, hp, p1, p2, p3, p4, μ, ν, p5, p6, p7⟩ := ri_pot h (qrow_prim hna hob) (Nat.le_refl _)
    rw [List.take_length] at hp p1 p2 p3 p4 p7
    have hB := pB_le hp na
    have hB1 := pB_pos hp (u := na)
    cases ob with
    | none =>
      obtain ⟨hle, _⟩ := red_le hp p1 p2 hk hna hna p3 p4 p5 p6 p7
      exact ⟨2 * pB t M na, by omega, by omega, BR_le hk hle (cd_BRqs hp hk hna hna rfl (by decide) (by decide) rfl)⟩
    | some nb =>
      obtain ⟨h1, h2⟩ := hob nb rfl
      obtain ⟨hle, hzz⟩ := red_le hp p1 p2 hk hna h1 p3 p4 p5 p6 p7
      by_cases q : t na = t nb
      · exact ⟨2 * pB t M na, by omega, by omega, BR_le hk hle (cd_BRqs hp hk hna h1 rfl (by decide) (by decide) q)⟩
      · exfalso
        obtain ⟨a1, a2, a3, a4, a5, a6⟩ := pot_rd hp hk hna
        obtain ⟨b1, b2, b3, b4, b5, b6⟩ := pot_rd hp hk h1
        have tb := (hp.1 nb h1).1
        have ta := (hp.1 na hna).1
        by_cases qa : t na < 8
        · have hc := (hzz (t na) (by omega)).mp (hz _ qa)
          unfold cd at hc
          rw [if_neg q] at hc
          unfold gr at hc
          rw [if_pos rfl, if_neg q, if_neg (show ¬ t na = 8 by omega), if_neg (show ¬ t na = 9 by omega)] at hc
          have h5 := Int.mul_ne_zero b1 (a6 qa)
          omega
        · have qb : t nb < 8 := by omega
          have hc := (hzz (t nb) (by omega)).mp (hz _ qb)
          unfold cd at hc
          rw [if_neg q] at hc
          unfold gr at hc
          rw [if_pos rfl, if_neg (Ne.symm q), if_neg (show ¬ t nb = 8 by omega), if_neg (show ¬ t nb = 9 by omega)] at hc
          have h5 := Int.mul_ne_zero a1 (b6 qb)
          omega
  obtain ⟨B, c1, c2, c3⟩ := key
  have e8 := c3.1 8 (by decide)
  have e9 := c3.2 0 (by decide)
  rw [hz 0 (by decide), ab_z] at e9
  have q4 : (90 : Int) ^ 4 = 65610000 := by decide
  have h7 : k * (2 * B - 0) ≤ 99900 * (2 * (2 * 65610000)) := mle hk2 (by omega) (by omega) (by omega)
  refine ⟨by omega, by omega, ?_⟩
  have hg : gv (redu es (qrow na ob)) 10 ≤ 1 := hpr
  have hg2 : gv (redu es (qrow na ob)) 10 = Nat.gcd (Nat.gcd (gv (redu es (qrow na ob)) 8) (redu es (qrow na ob) 8).natAbs) (redu es (qrow na ob) 9).natAbs := rfl
  have hg3 : gv (redu es (qrow na ob)) 8 = 0 := by
    rw [gv_congr (f := fun _ => 0) (fun k hk => by rw [hz k hk])]
    decide
  rw [hg3, Nat.gcd_zero_left, Nat.gcd_comm] at hg2
  have h8 : redu es (qrow na ob) 8 ≠ 0 := by
    have : ∀ (es : List (Nat × (Nat → Int))) (f : Nat → Int), f 8 ≠ 0 → (∀ q ∈ es, q.2 8 = 0 ∧ q.2 q.1 ≠ 0) → redu es f 8 ≠ 0 := by
      intro es
      induction es with
      | nil => intro f hf _; exact hf
      | cons q es ih => intro f hf hq; exact ih _ (el_8 hf (hq q List.mem_cons_self).1 (hq q List.mem_cons_self).2) (fun p hp => hq p (List.mem_cons_of_mem _ hp))
    refine this es _ ?_ (fun q hq => ⟨(h.2.1 q hq).2.2, ech_lead h.1 q hq⟩)
    cases ob with
    | none => show gr na na (-1) 0 1 0 8 ≠ 0; rw [gr_8 hna hna]; decide
    | some nb => show gr na nb (-1) (-1) 1 0 8 ≠ 0; rw [gr_8 hna (hob nb rfl).1]; decide
  have h9 : Nat.gcd (redu es (qrow na ob) 9).natAbs (redu es (qrow na ob) 8).natAbs ≠ 0 := fun w => h8 (Int.natAbs_eq_zero.mp (Nat.gcd_eq_zero_iff.mp w).2)
  omega
theorem tb_step {t b : Int64} {g : Int32} (h1 : ab t.toInt ≤ 1000000000000000) (h2 : ab b.toInt ≤ 1000000000) (h3 : ab g.toInt ≤ 100000) : (t + b * g.toInt64).toInt = t.toInt + b.toInt * g.toInt := by
  have h4 : ab (b.toInt * g.toInt) ≤ 1000000000 * 100000 := by rw [ab_mul]; exact mle h2 h3 (ab_0 _) (by decide)
  have e : (b * g.toInt64).toInt = b.toInt * g.toInt := by rw [i64_mul (by rw [wide]; omega), wide]
  rw [i64_add, e]
  rw [e]
  have := ab_add t.toInt (b.toInt * g.toInt)
  omega
theorem gcd_sft {t b g : Int} (h : Nat.gcd t.natAbs b.natAbs = 1) : Nat.gcd (t + b * g).natAbs b.natAbs = 1 := by
  have h1 : Int.gcd t b = 1 := h
  have h2 : Int.gcd (t + b * g) b = 1 := by rw [Int.gcd_add_mul_left_left]; exact h1
  exact h2
theorem ptM_val {w : Int32} {t b : Int64} (h : Nat.gcd t.toInt.natAbs b.toInt.natAbs = 1) (ht : ab t.toInt < 2 ^ 63) (hb : ab b.toInt < 2 ^ 63) : (ptM w t b).toInt = if w = 0 then (if 0 ≤ b.toInt then t.toInt else -t.toInt) else (if 0 ≤ b.toInt then b.toInt else -b.toInt) := by
  have hc : (cg t b).toInt = 1 := by rw [cg_toInt (i64_mn rfl ht) (i64_mn rfl hb), h]; rfl
  have hc1 : cg t b = 1 := Int64.toInt_inj.mp (by rw [hc]; rfl)
  have D1 : ∀ y : Int64, (y / 1) = y := fun y => Int64.toInt_inj.mp (by rw [Int64.toInt_div_of_ne_right y 1 (by decide), Int64.toInt_one, Int.tdiv_one])
  have D2 : ∀ y : Int64, ab y.toInt < 2 ^ 63 → (y / -1).toInt = -y.toInt := fun y hy => by
    rw [Int64.toInt_div, show ((-1 : Int64)).toInt = -1 from by decide]
    have : y.toInt.tdiv (-1) = -y.toInt := by rw [Int.tdiv_neg, Int.tdiv_one]
    rw [this]
    exact bm_id (by rw [ab_neg]; exact hy)
  have hle : (0 ≤ b) ↔ 0 ≤ b.toInt := Int64.le_iff_toInt_le
  unfold ptM ptg
  rw [hc1]
  by_cases q : 0 ≤ b
  · rw [if_pos q, if_pos (hle.mp q), if_pos (hle.mp q), D1, D1]
    split <;> rfl
  · rw [if_neg q, if_neg (fun v => q (hle.mpr v)), if_neg (fun v => q (hle.mpr v))]
    split
    · exact D2 t ht
    · exact D2 b hb
theorem gz_b5 {p : Nat → Nat → Int32} {m : Nat} (h : WT p m) (nm un sg : Int32) : ab (gz p nm un sg m) ≤ 10000 := by
  have h1 := gz_b h.2 nm un sg m (Nat.le_refl _)
  have h2 := ev_le p m
  have h3 := h.1
  omega

theorem c_X7_al (l : Launch) {E : zE} {S : zS} {I : Nat → Nat → Int32} {J : Nat → Nat → Int64} {R : Nat → Nat → Option Nat} {x td m : Nat} (hD : TD S R I x td m) : zI l yX7_all wsX7_all rmX7_all E S [.ref x] (I, J, R) (al m) (I, J, R) := c_X7_all l hD

set_option maxHeartbeats 4000000 in
set_option maxRecDepth 100000 in
theorem c_X7_hasAnswer (l : Launch) {E : zE} {S : zS} {I : Nat → Nat → Int32} {J : Nat → Nat → Int64} {R : Nat → Nat → Option Nat} {x ro ba be : Nat} (hm : MB S R x ro ba be) {td m : Nat} (hD : TD S R I x td m) (hW : WT (fun i w => tdP I td i w) m) {ak na : Nat} {ob : Option Nat} (hQ : I x 9 ≠ 0 → AK S R I x ak na ob) : zIP l yX7_hasAnswer wsX7_hasAnswer rmX7_hasAnswer E S [.ref x] (I, J, R) (fun r ν => ∃ I' J', ν = (I', J', R) ∧ r = b2i (HA (I x 9) (fun i w => tdP I td i w) m (I ak 3) na ob) ∧ FQ I I' J J' x ro ba be ∧ (r ≠ 0 → (J' x 25).toInt = redu (gth (fun i w => tdP I td i w) m (I ak 3) (bt (al m)) m).1 (qrow na ob) 9 ∧ (J' x 26).toInt = redu (gth (fun i w => tdP I td i w) m (I ak 3) (bt (al m)) m).1 (qrow na ob) 8 ∧ redu (gth (fun i w => tdP I td i w) m (I ak 3) (bt (al m)) m).1 (qrow na ob) 8 ≠ 0)) := by
  refine z_metIP (cc := cX7_hasAnswer) (maxL := 1) (ty := .boolean) (by decide) rfl (Nat.le_of_ble_eq_true rfl) (fun X h ret => ?_)
  show zV X E S 0 0 (I, J, R) 0 _ []
  obtain ⟨m1, m2, m3, m4, m5, m6, m7, m8⟩ := id hm
  obtain ⟨n1, n2⟩ := td_ne hm hD
  generalize hPP : (fun i w => tdP I td i w) = P at *
  obtain ⟨d1, d2, d3, d4, d5⟩ := id hD
  refine z_aload_n h dX7_hasAnswer_0 rfl rfl ?_
  refine z_getI h (by assumption) rfl kw7 9 (by decide) rfl kf_RX7_207 dX7_hasAnswer_1 ?_
  refine z_if_eq h 30 dX7_hasAnswer_4 (by decide) (fun c4 => ?_) (fun c4 => ?_)
  · exact z_lk (show zV X E S 0 0 (I, J, R) 30 [] [] from z_iconst (v := 0) h dX7_hasAnswer_30 (by decide) (ret ⟨I, J, rfl, by unfold HA; rw [decide_eq_false (fun w => w c4)]; rfl, FQ.rf, fun w => absurd w (by decide)⟩ dX7_hasAnswer_31 rfl)) trivial
  · have hQ := hQ c4
    refine z_aload_n h dX7_hasAnswer_7 rfl rfl ?_
    refine z_callVIP h (c_X7_quarrelAt l hm hD (by rw [hPP]; exact hW)) (by assumption) rfl gm_RX7_255 rfl ⟨rfl, rfl⟩ 0 (by decide +kernel) ⟨by decide, by decide⟩ rfl rfl (Nat.le_of_ble_eq_true rfl) ⟨Nat.zero_le _, Nat.zero_le _⟩ dX7_hasAnswer_8 (fun r ν hν => ?_)
    rw [hPP] at hν
    obtain ⟨I1, J1, rfl, hr, hF1⟩ := hν
    subst hr
    have hQ1 := hQ.fq hm hF1
    have hD1 := hF1.TD hD
    have hP1 : (fun i w => tdP I1 td i w) = P := by rw [hF1.tds n1 n2, hPP]
    have eak : I1 ak = I ak := hF1.1 ak (ak_ne hm hQ).1 (ak_ne hm hQ).2
    refine z_iconst (v := -1) h dX7_hasAnswer_11 (by decide) ?_
    refine z_icmp_ne h 30 dX7_hasAnswer_12 (by decide) (fun c12 => ?_) (fun c12 => ?_)
    · refine z_iconst (v := 0) h dX7_hasAnswer_30 (by decide) ?_
      first
        | exact ret ⟨I1, J1, rfl, by unfold HA; rw [decide_eq_false c12, Bool.and_false]; rfl, hF1, fun w => absurd w (by decide)⟩ dX7_hasAnswer_31 rfl
        | exact ret ⟨I2, J2, rfl, by unfold HA; rw [show AB P m (I ak 3) (bt (al m)) na ob = false from c23, Bool.and_false]; rfl, hF1.tr hF2, fun w => absurd w (by decide)⟩ dX7_hasAnswer_31 rfl
        | exact ret ⟨I2, J2, rfl, by unfold HA; rw [show AB P m (I ak 3) (bt (al m)) na ob = true from c23, decide_eq_true c12, decide_eq_true c4]; rfl, hF1.tr hF2, fun _ => hv⟩ dX7_hasAnswer_31 rfl
    · refine z_aload_n h dX7_hasAnswer_15 rfl rfl ?_
      refine z_aload_n h dX7_hasAnswer_16 rfl rfl ?_
      refine z_callVI h (c_X7_al l hD1) (by assumption) rfl gm_RX7_261 rfl ⟨rfl, rfl⟩ 0 (by decide +kernel) ⟨by decide, by decide⟩ rfl rfl (Nat.le_of_ble_eq_true rfl) ⟨Nat.zero_le _, Nat.zero_le _⟩ dX7_hasAnswer_17 ?_
      refine z_callVIP h (c_X7_answersBy l hm hD1 (by rw [hP1]; exact hW) hQ1) (by assumption) rfl gm_RX7_264 rfl ⟨rfl, rfl⟩ 1 (by decide +kernel) ⟨by decide, by decide⟩ rfl rfl (Nat.le_of_ble_eq_true rfl) ⟨Nat.zero_le _, Nat.zero_le _⟩ dX7_hasAnswer_20 (fun r ν hν => ?_)
      rw [hP1, eak] at hν
      obtain ⟨I2, J2, rfl, hr, hF2, hv⟩ := hν
      subst hr
      refine z_if_eq h 30 dX7_hasAnswer_23 (by decide) (fun c23 => ?_) (fun c23 => ?_)
      · have c23 := b2i_0.mp c23
        refine z_iconst (v := 0) h dX7_hasAnswer_30 (by decide) ?_
        first
          | exact ret ⟨I1, J1, rfl, by unfold HA; rw [decide_eq_false c12, Bool.and_false]; rfl, hF1, fun w => absurd w (by decide)⟩ dX7_hasAnswer_31 rfl
          | exact ret ⟨I2, J2, rfl, by unfold HA; rw [show AB P m (I ak 3) (bt (al m)) na ob = false from c23, Bool.and_false]; rfl, hF1.tr hF2, fun w => absurd w (by decide)⟩ dX7_hasAnswer_31 rfl
          | exact ret ⟨I2, J2, rfl, by unfold HA; rw [show AB P m (I ak 3) (bt (al m)) na ob = true from c23, decide_eq_true c12, decide_eq_true c4]; rfl, hF1.tr hF2, fun _ => hv⟩ dX7_hasAnswer_31 rfl
      · have hv := hv c23
        have c23 := b2i_n0.mp c23
        refine z_iconst (v := 1) h dX7_hasAnswer_26 (by decide) ?_
        refine z_goto h 31 dX7_hasAnswer_27 (by decide) ?_
        first
          | exact ret ⟨I1, J1, rfl, by unfold HA; rw [decide_eq_false c12, Bool.and_false]; rfl, hF1, fun w => absurd w (by decide)⟩ dX7_hasAnswer_31 rfl
          | exact ret ⟨I2, J2, rfl, by unfold HA; rw [show AB P m (I ak 3) (bt (al m)) na ob = false from c23, Bool.and_false]; rfl, hF1.tr hF2, fun w => absurd w (by decide)⟩ dX7_hasAnswer_31 rfl
          | exact ret ⟨I2, J2, rfl, by unfold HA; rw [show AB P m (I ak 3) (bt (al m)) na ob = true from c23, decide_eq_true c12, decide_eq_true c4]; rfl, hF1.tr hF2, fun _ => hv⟩ dX7_hasAnswer_31 rfl

set_option maxHeartbeats 4000000 in
set_option maxRecDepth 100000 in
theorem c_X7_amounts (l : Launch) {E : zE} {S : zS} {I : Nat → Nat → Int32} {J : Nat → Nat → Int64} {R : Nat → Nat → Option Nat} {x ro ba be : Nat} (hm : MB S R x ro ba be) {td m : Nat} (hD : TD S R I x td m) (hW : WT (fun i w => tdP I td i w) m) {na : Nat} {un sg : Int32} (hna : na < 8) : zIP l yX7_amounts wsX7_amounts rmX7_amounts E S [.ref x, .int (nI na), .int un, .int sg] (I, J, R) (fun r ν => ∃ I' J', ν = (I', J', R) ∧ r = b2i (AB (fun i w => tdP I td i w) m un (bt (al m)) na none) ∧ FQ I I' J J' x ro ba be ∧ (r ≠ 0 → (J' x 25).toInt = redu (gth (fun i w => tdP I td i w) m un (bt (al m)) m).1 (qrow na none) 9 + redu (gth (fun i w => tdP I td i w) m un (bt (al m)) m).1 (qrow na none) 8 * gz (fun i w => tdP I td i w) (nI na) un sg m ∧ (J' x 26).toInt = redu (gth (fun i w => tdP I td i w) m un (bt (al m)) m).1 (qrow na none) 8 ∧ redu (gth (fun i w => tdP I td i w) m un (bt (al m)) m).1 (qrow na none) 8 ≠ 0)) := by
  refine z_metIP (cc := cX7_amounts) (maxL := 4) (ty := .boolean) (by decide) rfl (Nat.le_of_ble_eq_true rfl) (fun X h ret => ?_)
  show zV X E S 0 0 (I, J, R) 0 _ []
  obtain ⟨m1, m2, m3, m4, m5, m6, m7, m8⟩ := id hm
  obtain ⟨n1, n2⟩ := td_ne hm hD
  generalize hPP : (fun i w => tdP I td i w) = P at *
  obtain ⟨d1, d2, d3, d4, d5⟩ := id hD
  have hK := kk_KC (p := P) hW.1
  obtain ⟨hk0, hk1⟩ := kc_le hK
  have hob : ∀ nb, (none : Option Nat) = some nb → nb < 8 ∧ nb ≠ na := fun nb w => nomatch w
  refine z_aload_n h dX7_amounts_0 rfl rfl ?_
  refine z_iload_n h dX7_amounts_1 rfl rfl ?_
  refine z_aload_n h dX7_amounts_2 rfl rfl ?_
  refine z_callVI h (c_X7_al l hD) (by assumption) rfl gm_RX7_261 rfl ⟨rfl, rfl⟩ 0 (by decide +kernel) ⟨by decide, by decide⟩ rfl rfl (Nat.le_of_ble_eq_true rfl) ⟨Nat.zero_le _, Nat.zero_le _⟩ dX7_amounts_3 ?_
  refine z_callVIP h (c_X7_gather l hm hD (by rw [hPP]; exact hW)) (by assumption) rfl gm_RX7_251 rfl ⟨rfl, rfl⟩ 2 (by decide +kernel) ⟨by decide, by decide⟩ rfl rfl (Nat.le_of_ble_eq_true rfl) ⟨Nat.zero_le _, Nat.zero_le _⟩ dX7_amounts_6 (fun r ν hν => ?_)
  rw [hPP] at hν
  obtain ⟨I2, J2, rfl, hr, hF2, hM2⟩ := hν
  subst hr
  have hri := (gth_ri hW un (bt (al m)) m (Nat.le_refl _)).1
  have hlen : (gth P m un (bt (al m)) m).1.length + ev P m ≤ 11 := by have := nf_m hW (un := un) (st := bt (al m)); omega
  have hset := set_es hM2 hri hK hlen hna hob (J2 ro)
  have hD2 := hF2.q.TD hD
  have hP2 : (fun i w => tdP I2 td i w) = P := by rw [hF2.q.tds n1 n2, hPP]
  refine z_if_eq h 21 dX7_amounts_9 (by decide) (fun c9 => ?_) (fun c9 => ?_)
  · have c9 := b2i_0.mp c9
    refine z_iconst (v := 0) h dX7_amounts_21 (by decide) ?_
    first
      | exact ret ⟨_, _, rfl, by unfold AB; rw [show (gth P m un (bt (al m)) m).2 = false from c9, Bool.false_and]; rfl, hF2.q, fun w => absurd w (by decide)⟩ dX7_amounts_22 rfl
      | exact ret ⟨_, _, rfl, by unfold AB; rw [c18, Bool.and_false]; rfl, hF2.q.tr FQ.ms, fun w => absurd w (by decide)⟩ dX7_amounts_22 rfl
  · have c9 := b2i_n0.mp c9
    refine z_aload_n h dX7_amounts_12 rfl rfl ?_
    refine z_iload_n h dX7_amounts_13 rfl rfl ?_
    refine z_iconst (v := -1) h dX7_amounts_14 (by decide) ?_
    refine z_callVI h (c_X7_settles l hm hM2.1 (ri_8 hri) (rm_rb hM2 hri).2 hna (Or.inl ⟨rfl, rfl⟩) hset.1) (by assumption) rfl gm_RX7_258 rfl ⟨rfl, rfl⟩ 2 (by decide +kernel) ⟨by decide, by decide⟩ rfl rfl (Nat.le_of_ble_eq_true rfl) ⟨Nat.zero_le _, Nat.zero_le _⟩ dX7_amounts_15 ?_
    rw [hset.2.1]
    refine z_if_ne h 23 dX7_amounts_18 (by decide) (fun c18 => ?_) (fun c18 => ?_)
    · have c18 := b2i_n0.mp c18
      obtain ⟨hb8, hb9, hgcd⟩ := q_bound hk0 hk1 hri hna hob c18
      refine z_aload_n h dX7_amounts_23 rfl rfl ?_
      refine z_dup h dX7_amounts_24 rfl ?_
      refine z_getJ h (by assumption) rfl kw7 25 (by decide) rfl kf_RX7_244 dX7_amounts_25 ?_
      rw [mS_t]
      refine z_aload_n h dX7_amounts_28 rfl rfl ?_
      refine z_getJ h (by assumption) rfl kw7 26 (by decide) rfl kf_RX7_248 dX7_amounts_29 ?_
      rw [mS_b]
      refine z_aload_n h dX7_amounts_32 rfl rfl ?_
      refine z_iload_n h dX7_amounts_33 rfl rfl ?_
      refine z_iload_n h dX7_amounts_34 rfl rfl ?_
      refine z_iload_n h dX7_amounts_35 rfl rfl ?_
      refine z_callVI h (c_X7_more l hD2) (by assumption) rfl gm_RX7_223 rfl ⟨rfl, rfl⟩ 3 (by decide +kernel) ⟨by decide, by decide⟩ rfl rfl (Nat.le_of_ble_eq_true rfl) ⟨Nat.zero_le _, Nat.zero_le _⟩ dX7_amounts_36 ?_
      rw [hP2]
      refine z_i2l h dX7_amounts_39 rfl ?_
      refine z_lmul h dX7_amounts_40 ?_
      refine z_ladd h dX7_amounts_41 ?_
      refine z_putJ h (by assumption) rfl kw7 25 (by decide) rfl rfl (rfl) (rfl) kf_RX7_244 dX7_amounts_42 ?_
      refine z_iconst (v := 1) h dX7_amounts_45 (by decide) ?_
      refine ret ⟨_, _, rfl, by unfold AB; rw [c18, show (gth P m un (bt (al m)) m).2 = true from c9]; rfl, (hF2.q.tr FQ.ms).pt, fun _ => ⟨?_, ?_, hset.2.2.2.2⟩⟩ dX7_amounts_46 rfl
      · rw [zu_s, tb_step (by rw [hset.2.2.1]; exact hb9) (by rw [hset.2.2.2.1]; exact hb8) (by rw [mrM_gz hW.1 hW.2 _ _ _ m (Nat.le_refl _)]; have := gz_b5 hW (nI na) un sg; omega), hset.2.2.1, hset.2.2.2.1, mrM_gz hW.1 hW.2 _ _ _ m (Nat.le_refl _)]
      · rw [zu_k (by decide), mS_b]; exact hset.2.2.2.1
    · have c18 := b2i_0.mp c18
      refine z_iconst (v := 0) h dX7_amounts_21 (by decide) ?_
      first
        | exact ret ⟨_, _, rfl, by unfold AB; rw [show (gth P m un (bt (al m)) m).2 = false from c9, Bool.false_and]; rfl, hF2.q, fun w => absurd w (by decide)⟩ dX7_amounts_22 rfl
        | exact ret ⟨_, _, rfl, by unfold AB; rw [c18, Bool.and_false]; rfl, hF2.q.tr FQ.ms, fun w => absurd w (by decide)⟩ dX7_amounts_22 rfl
