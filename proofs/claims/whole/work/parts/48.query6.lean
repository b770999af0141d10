/-! strange and count of the reference -/
theorem i64_lt0 (x : Int64) : x < 0 ↔ x.toInt < 0 := Int64.lt_iff_toInt_lt
theorem i64_eq1 (x : Int64) : x = 1 ↔ x.toInt = 1 := by rw [← Int64.toInt_inj]; rfl
theorem sFn_s {α : Type} {f : Nat → Option α} {d i : Nat} (h : f i = none) : sFn f (d + 1) i = sFn f d (i + 1) := by
  show (match f i with | some v => some v | none => sFn f d (i + 1)) = _
  rw [h]
theorem sFn_f {α : Type} {f : Nat → Option α} {d i : Nat} {v : α} (h : f i = some v) : sFn f (d + 1) i = some v := by
  show (match f i with | some v => some v | none => sFn f d (i + 1)) = _
  rw [h]
theorem sgM_fq {I I' : Nat → Nat → Int32} {td x : Nat} (h : (fun i w => tdP I' td i w) = fun i w => tdP I td i w) (h9 : I' x 9 = I x 9) (m : Nat) : sgM I' td (if I' x 9 = 0 then 0 else 1) m = nI (stg (I x 9) (fun i w => tdP I td i w) m) := by
  rw [sgM_stg, h, h9]

set_option maxHeartbeats 4000000 in
set_option maxRecDepth 100000 in
theorem c_X7_strange (l : Launch) {E : zE} {S : zS} {I : Nat → Nat → Int32} {J : Nat → Nat → Int64} {R : Nat → Nat → Option Nat} {x ro ba be : Nat} (hm : MB S R x ro ba be) {td m : Nat} (hD : TD S R I x td m) (hW : WT (fun i w => tdP I td i w) m) {w : Int32} : zIP l yX7_strange wsX7_strange rmX7_strange E S [.ref x, .int w] (I, J, R) (fun r ν => ∃ I' J', ν = (I', J', R) ∧ FQ (zu I x 0 0) I' J J' x ro ba be ∧ r = (if I x 9 ≠ 0 ∧ (0 ≤ w ∧ w ≤ 2) ∧ QA (fun i w => tdP I td i w) m = -1 then stO w (sFn (stT (fun i w => tdP I td i w) m) (stg (I x 9) (fun i w => tdP I td i w) m) 0) else -1)) := by
  refine z_metIP (cc := cX7_strange) (maxL := 5) (ty := .int) (by decide) rfl (Nat.le_of_ble_eq_true rfl) (fun X h ret => ?_)
  show zV X E S 0 0 (I, J, R) 0 _ []
  obtain ⟨n1, n2⟩ := td_ne hm hD
  obtain ⟨m1, m2, m3, m4, m5, m6, m7, m8⟩ := id hm
  have hP0 := td_z0 (I := I) n2
  have hD0 := hD.z0
  have hK := kk_KC (p := (fun i w => tdP I td i w)) hW.1
  obtain ⟨hk0, hk1⟩ := kc_le hK
  generalize hPP : (fun i w => tdP I td i w) = P at *
  refine z_aload_n h dX7_strange_0 rfl rfl ?_
  refine z_iconst (v := 0) h dX7_strange_1 (by decide) ?_
  refine z_putI h (by assumption) rfl kw7 0 (by decide) rfl rfl (rfl) (rfl) kf_RX7_42 dX7_strange_2 ?_
  refine z_aload_n h dX7_strange_5 rfl rfl ?_
  refine z_getI h (by assumption) rfl kw7 9 (by decide) rfl kf_RX7_207 dX7_strange_6 ?_
  rw [zu_k (by decide)]
  refine z_if_eq h 29 dX7_strange_9 (by decide) (fun c9 => ?_) (fun c9 => ?_)
  · refine z_iconst (v := -1) h dX7_strange_29 (by decide) ?_
    exact ret ⟨_, _, rfl, FQ.rf, by rw [if_neg (fun v => v.1 c9)]⟩ dX7_strange_30 rfl
  · refine z_iload_n h dX7_strange_12 rfl rfl ?_
    refine z_iconst (v := 0) h dX7_strange_13 (by decide) ?_
    refine z_iconst (v := 2) h dX7_strange_14 (by decide) ?_
    refine z_callSI h (c_X7_isIn l w 0 2) (va_cwS 3 h.2.2.2.2.1 gm_RX7_176 rfl rfl rfl (by decide +kernel) ⟨by decide, by decide⟩) rfl rfl (Nat.le_of_ble_eq_true rfl) ⟨Nat.zero_le _, Nat.zero_le _⟩ dX7_strange_15 ?_
    refine z_if_eq h 29 dX7_strange_18 (by decide) (fun c18 => ?_) (fun c18 => ?_)
    · have c18 := of_decide_eq_false (b2i_0.mp c18)
      refine z_iconst (v := -1) h dX7_strange_29 (by decide) ?_
      exact ret ⟨_, _, rfl, FQ.rf, by rw [if_neg (fun v => c18 v.2.1)]⟩ dX7_strange_30 rfl
    · have c18 := of_decide_eq_true (b2i_n0.mp c18)
      refine z_aload_n h dX7_strange_21 rfl rfl ?_
      refine z_callVIP h (c_X7_quarrelAt l hm hD0 (by rw [hP0]; exact hW)) (by assumption) rfl gm_RX7_255 rfl ⟨rfl, rfl⟩ 0 (by decide +kernel) ⟨by decide, by decide⟩ rfl rfl (Nat.le_of_ble_eq_true rfl) ⟨Nat.zero_le _, Nat.zero_le _⟩ dX7_strange_22 (fun r ν hν => ?_)
      rw [hP0] at hν
      obtain ⟨I1, J1, rfl, hr, hF1⟩ := hν
      subst hr
      refine z_iconst (v := -1) h dX7_strange_25 (by decide) ?_
      refine z_icmp_eq h 31 dX7_strange_26 (by decide) (fun c26 => ?_) (fun c26 => ?_)
      · have hcond : I x 9 ≠ 0 ∧ (0 ≤ w ∧ w ≤ 2) ∧ QA P m = -1 := ⟨c9, c18, c26⟩
        have LT : ∀ (dt t : Nat) (I2 : Nat → Nat → Int32) (J2 : Nat → Nat → Int64), t + dt = stg (I x 9) P m → FQ (zu I x 0 0) I2 J J2 x ro ba be → sFn (stT P m) dt t = sFn (stT P m) (stg (I x 9) P m) 0 → zV X E S 0 0 (I2, J2, R) 33 [(0, .ref x), (1, .int w), (2, .int (nI t))] [] := by
          intro dt
          induction dt with
          | zero =>
            intro t I2 J2 ht hF2 hT
            have hD2 := hF2.TD hD0
            have d2 := hD2.1
            have hsg : sgM I2 td (if I2 x 9 = 0 then 0 else 1) m = nI (stg (I x 9) P m) := by rw [sgM_fq (x := x) (hF2.tds n1 n2) (hF2.2.1 9 (by decide)), hP0, zu_k (by decide)]
            have hsb : stg (I x 9) P m < 20 := by unfold stg; have := ev_le P m; have := hW.1; split <;> omega
            have e : t = stg (I x 9) P m := by omega
            refine z_iload_n h dX7_strange_33 rfl rfl ?_
            refine z_aload_n h dX7_strange_34 rfl rfl ?_
            refine z_callVI h (c_X7_stages l hD2) (by assumption) rfl gm_RX7_276 rfl ⟨rfl, rfl⟩ 0 (by decide +kernel) ⟨by decide, by decide⟩ rfl rfl (Nat.le_of_ble_eq_true rfl) ⟨Nat.zero_le _, Nat.zero_le _⟩ dX7_strange_35 ?_
            rw [hsg]
            refine z_icmp_ge h 130 dX7_strange_38 (by decide) (fun c38 => ?_) (fun c38 => ?_)
            · refine z_iconst (v := -1) h dX7_strange_130 (by decide) ?_
              refine ret ⟨I2, J2, rfl, hF2, ?_⟩ dX7_strange_131 rfl
              rw [if_pos hcond, ← hT]
              rfl
            · exact absurd (nI_le (by omega) (by omega)) c38
          | succ dt ihT =>
            intro t I2 J2 ht hF2 hT
            have hD2 := hF2.TD hD0
            have d2 := hD2.1
            have hsg : sgM I2 td (if I2 x 9 = 0 then 0 else 1) m = nI (stg (I x 9) P m) := by rw [sgM_fq (x := x) (hF2.tds n1 n2) (hF2.2.1 9 (by decide)), hP0, zu_k (by decide)]
            have hsb : stg (I x 9) P m < 20 := by unfold stg; have := ev_le P m; have := hW.1; split <;> omega
            have LU : ∀ (du u : Nat) (I3 : Nat → Nat → Int32) (J3 : Nat → Nat → Int64), u + du = 4 → FQ (zu I x 0 0) I3 J J3 x ro ba be → sFn (stU P m t) du u = stT P m t → zV X E S 0 0 (I3, J3, R) 43 [(0, .ref x), (1, .int w), (2, .int (nI t)), (3, .int (nI u))] [] := by
              intro du
              induction du with
              | zero =>
                intro u I3 J3 hu hF3 hU
                have e : u = 4 := by omega
                subst e
                refine z_iload_n h dX7_strange_43 rfl rfl ?_
                refine z_iconst (v := 4) h dX7_strange_44 (by decide) ?_
                rw [show (4 : Int32) = nI 4 from rfl]
                refine z_icmp_ge h 124 dX7_strange_45 (by decide) (fun c45 => ?_) (fun c45 => ?_)
                · refine z_iinc h dX7_strange_124 rfl (nI_1 t) (by decide) ?_
                  refine z_goto h 33 dX7_strange_127 (by decide) ?_
                  exact z_lk (ihT (t + 1) I3 J3 (by omega) hF3 (by rw [← hT, sFn_s (show stT P m t = none from hU.symm)])) ⟨rfl, rfl, rfl, trivial⟩
                · exact absurd (nI_le (by decide) (by decide)) c45
              | succ du ihU =>
                intro u I3 J3 hu hF3 hU
                have LN : ∀ (dk k : Nat) (I4 : Nat → Nat → Int32) (J4 : Nat → Nat → Int64), k + dk = 8 → FQ (zu I x 0 0) I4 J J4 x ro ba be → sFn (stN P m t u) dk k = stU P m t u → zV X E S 0 0 (I4, J4, R) 51 [(0, .ref x), (1, .int w), (2, .int (nI t)), (3, .int (nI u)), (4, .int (nI k))] [] := by
                  intro dk
                  induction dk with
                  | zero =>
                    intro k I4 J4 hk hF4 hN
                    have e : k = 8 := by omega
                    subst e
                    refine z_iload h dX7_strange_51 rfl ?_
                    refine z_bipush (v := 8) h dX7_strange_53 (by decide) ?_
                    rw [show (8 : Int32) = nI 8 from rfl]
                    refine z_icmp_ge h 118 dX7_strange_55 (by decide) (fun c55 => ?_) (fun c55 => ?_)
                    · refine z_iinc h dX7_strange_118 rfl (nI_1 u) (by decide) ?_
                      refine z_goto h 43 dX7_strange_121 (by decide) ?_
                      exact z_lk (ihU (u + 1) I4 J4 (by omega) hF4 (by rw [← hU, sFn_s (show stU P m t u = none from hN.symm)])) ⟨rfl, rfl, rfl, rfl, trivial⟩
                    · exact absurd (nI_le (by decide) (by decide)) c55
                  | succ dk ihN =>
                    intro k I4 J4 hk hF4 hN
                    have hD4 := hF4.TD hD0
                    have d4 := hD4.1
                    have hP4 : (fun i w => tdP I4 td i w) = P := by rw [hF4.tds n1 n2, hP0]
                    refine z_iload h dX7_strange_51 rfl ?_
                    refine z_bipush (v := 8) h dX7_strange_53 (by decide) ?_
                    rw [show (8 : Int32) = nI 8 from rfl]
                    refine z_icmp_ge h 118 dX7_strange_55 (by decide) (fun c55 => ?_) (fun c55 => ?_)
                    · exact absurd (nle (by decide) (by omega) c55) (by omega)
                    · refine z_aload_n h dX7_strange_58 rfl rfl ?_
                      refine z_iload h dX7_strange_59 rfl ?_
                      refine z_iload_n h dX7_strange_61 rfl rfl ?_
                      refine z_iload_n h dX7_strange_62 rfl rfl ?_
                      refine z_callVIP h (c_X7_amounts l hm hD4 (by rw [hP4]; exact hW) (na := k) (by omega)) (by assumption) rfl gm_RX7_279 rfl ⟨rfl, rfl⟩ 3 (by decide +kernel) ⟨by decide, by decide⟩ rfl rfl (Nat.le_of_ble_eq_true rfl) ⟨Nat.zero_le _, Nat.zero_le _⟩ dX7_strange_63 (fun r ν hν => ?_)
                      rw [hP4] at hν
                      obtain ⟨I5, J5, rfl, hr, hF5, hv⟩ := hν
                      subst hr
                      have hF5 := hF4.tr hF5
                      refine z_if_eq h 112 dX7_strange_66 (by decide) (fun c66 => ?_) (fun c66 => ?_)
                      · have c66 := b2i_0.mp c66
                        refine z_iinc h dX7_strange_112 rfl (nI_1 k) (by decide) ?_
                        refine z_goto h 51 dX7_strange_115 (by decide) ?_
                        exact z_lk (ihN (k + 1) I5 J5 (by omega) hF5 (by rw [← hN, sFn_s (show stN P m t u k = none from if_neg (by rw [show stq P m (nI t) (nI u) k = false from by unfold stq; rw [c66, Bool.false_and]]; decide))])) ⟨rfl, rfl, rfl, rfl, rfl, trivial⟩
                      · have hv := hv c66
                        have c66 := b2i_n0.mp c66
                        have hri := (gth_ri hW (nI u) (bt (al m)) m (Nat.le_refl _)).1
                        have hsd : sd (redu (gth P m (nI u) (bt (al m)) m).1 (qrow k none)) = true := by
                          have c := c66
                          unfold AB at c
                          exact ((Bool.and_eq_true _ _).mp c).2
                        obtain ⟨hb8, hb9, hgcd⟩ := q_bound (ob := none) hk0 hk1 hri (show k < 8 by omega) (fun nb w => nomatch w) hsd
                        have hne : ¬ J5 x 26 = 0 := fun w => hv.2.2 (by rw [← hv.2.1, w]; rfl)
                        have hG := gz_b5 hW (nI k) (nI u) (nI t)
                        have hv0 : (ptM 0 (J5 x 25) (J5 x 26)).toInt = val 0 (redu (gth P m (nI u) (bt (al m)) m).1 (qrow k none)) (gz P (nI k) (nI u) (nI t) m) := fin_val hb8 hb9 hgcd hv.1 hv.2.1 (by omega)
                        have hv1 : (ptM 1 (J5 x 25) (J5 x 26)).toInt = val 1 (redu (gth P m (nI u) (bt (al m)) m).1 (qrow k none)) (gz P (nI k) (nI u) (nI t) m) := fin_val hb8 hb9 hgcd hv.1 hv.2.1 (by omega)
                        have hst : stq P m (nI t) (nI u) k = !(decide (0 ≤ val 0 (redu (gth P m (nI u) (bt (al m)) m).1 (qrow k none)) (gz P (nI k) (nI u) (nI t) m)) && decide (val 1 (redu (gth P m (nI u) (bt (al m)) m).1 (qrow k none)) (gz P (nI k) (nI u) (nI t) m) = 1)) := by
                          unfold stq
                          rw [show AB P m (nI u) (bt (al m)) k none = true from c66, Bool.true_and]
                        have F92 : stq P m (nI t) (nI u) k = true → zV X E S 0 0 (I5, J5, R) 92 [(0, .ref x), (1, .int w), (2, .int (nI t)), (3, .int (nI u)), (4, .int (nI k))] [] := by
                          intro hq
                          have hres : sFn (stT P m) (dt + 1) t = some (t, u, k) := by
                            refine sFn_f ?_
                            rw [← hU]
                            refine sFn_f ?_
                            rw [← hN]
                            exact sFn_f (if_pos hq)
                          refine z_iload_n h dX7_strange_92 rfl rfl ?_
                          refine z_if_ne h 101 dX7_strange_93 (by decide) (fun c93 => ?_) (fun c93 => ?_)
                          · refine z_iload_n h dX7_strange_101 rfl rfl ?_
                            refine z_iconst (v := 1) h dX7_strange_102 (by decide) ?_
                            refine z_icmp_ne h 110 dX7_strange_103 (by decide) (fun c103 => ?_) (fun c103 => ?_)
                            · have hw0 : stO w (some (t, u, k)) = nI t := by show (if w = 0 then _ else if w = 1 then _ else _) = _; rw [if_neg c93, if_neg c103]
                              refine z_iload_n h dX7_strange_110 rfl rfl ?_
                              exact ret ⟨I5, J5, rfl, hF5, by rw [if_pos hcond, ← hT, hres, hw0]⟩ dX7_strange_111 rfl
                            · have hw0 : stO w (some (t, u, k)) = nI u := by show (if w = 0 then _ else if w = 1 then _ else _) = _; rw [if_neg c93, if_pos c103]
                              refine z_iload_n h dX7_strange_106 rfl rfl ?_
                              refine z_goto h 111 dX7_strange_107 (by decide) ?_
                              exact ret ⟨I5, J5, rfl, hF5, by rw [if_pos hcond, ← hT, hres, hw0]⟩ dX7_strange_111 rfl
                          · have hw0 : stO w (some (t, u, k)) = nI k := if_pos c93
                            refine z_iload h dX7_strange_96 rfl ?_
                            refine z_goto h 111 dX7_strange_98 (by decide) ?_
                            exact ret ⟨I5, J5, rfl, hF5, by rw [if_pos hcond, ← hT, hres, hw0]⟩ dX7_strange_111 rfl
                        refine z_aload_n h dX7_strange_69 rfl rfl ?_
                        refine z_iconst (v := 0) h dX7_strange_70 (by decide) ?_
                        refine z_callVL h (c_X7_part l d4 hne) (by assumption) rfl gm_RX7_272 rfl ⟨rfl, rfl⟩ 1 (by decide +kernel) ⟨by decide, by decide⟩ rfl rfl (Nat.le_of_ble_eq_true rfl) ⟨Nat.zero_le _, Nat.zero_le _⟩ dX7_strange_71 ?_
                        refine z_lconst (v := 0) h dX7_strange_74 (by decide) ?_
                        refine z_lcmp h dX7_strange_75 ?_
                        refine z_if_lt h 92 dX7_strange_76 (by decide) (fun c76 => ?_) (fun c76 => ?_)
                        · have c76 := (lg_cmp_lt _ _).mp c76
                          exact z_lk (F92 (by rw [hst, ← hv0, decide_eq_false (Int.not_le.mpr ((i64_lt0 _).mp c76))]; rfl)) ⟨rfl, rfl, rfl, rfl, rfl, trivial⟩
                        · have c76 := mt (lg_cmp_lt _ _).mpr c76
                          refine z_aload_n h dX7_strange_79 rfl rfl ?_
                          refine z_iconst (v := 1) h dX7_strange_80 (by decide) ?_
                          refine z_callVL h (c_X7_part l d4 hne) (by assumption) rfl gm_RX7_272 rfl ⟨rfl, rfl⟩ 1 (by decide +kernel) ⟨by decide, by decide⟩ rfl rfl (Nat.le_of_ble_eq_true rfl) ⟨Nat.zero_le _, Nat.zero_le _⟩ dX7_strange_81 ?_
                          refine z_lconst (v := 1) h dX7_strange_84 (by decide) ?_
                          refine z_lcmp h dX7_strange_85 ?_
                          refine z_if_ne h 92 dX7_strange_86 (by decide) (fun c86 => ?_) (fun c86 => ?_)
                          · have c86 := mt (lg_cmp_eq _ _).mpr c86
                            exact z_lk (F92 (by rw [hst, ← hv1, decide_eq_false (fun w => c86 ((i64_eq1 _).mpr w)), Bool.and_false]; rfl)) ⟨rfl, rfl, rfl, rfl, rfl, trivial⟩
                          · have c86 := (lg_cmp_eq _ _).mp c86
                            refine z_goto h 112 dX7_strange_89 (by decide) ?_
                            refine z_iinc h dX7_strange_112 rfl (nI_1 k) (by decide) ?_
                            refine z_goto h 51 dX7_strange_115 (by decide) ?_
                            exact z_lk (ihN (k + 1) I5 J5 (by omega) hF5 (by rw [← hN, sFn_s (show stN P m t u k = none from if_neg (by rw [hst, ← hv0, ← hv1, decide_eq_true (Int.not_lt.mp (mt (i64_lt0 _).mpr c76)), decide_eq_true ((i64_eq1 _).mp c86)]; decide))])) ⟨rfl, rfl, rfl, rfl, rfl, trivial⟩
                refine z_iload_n h dX7_strange_43 rfl rfl ?_
                refine z_iconst (v := 4) h dX7_strange_44 (by decide) ?_
                rw [show (4 : Int32) = nI 4 from rfl]
                refine z_icmp_ge h 124 dX7_strange_45 (by decide) (fun c45 => ?_) (fun c45 => ?_)
                · exact absurd (nle (by decide) (by omega) c45) (by omega)
                · refine z_iconst (v := 0) h dX7_strange_48 (by decide) ?_
                  refine z_istore h dX7_strange_49 (by decide) ?_
                  exact z_lk (LN 8 0 I3 J3 rfl hF3 rfl) ⟨rfl, rfl, rfl, rfl, rfl, trivial⟩
            refine z_iload_n h dX7_strange_33 rfl rfl ?_
            refine z_aload_n h dX7_strange_34 rfl rfl ?_
            refine z_callVI h (c_X7_stages l hD2) (by assumption) rfl gm_RX7_276 rfl ⟨rfl, rfl⟩ 0 (by decide +kernel) ⟨by decide, by decide⟩ rfl rfl (Nat.le_of_ble_eq_true rfl) ⟨Nat.zero_le _, Nat.zero_le _⟩ dX7_strange_35 ?_
            rw [hsg]
            refine z_icmp_ge h 130 dX7_strange_38 (by decide) (fun c38 => ?_) (fun c38 => ?_)
            · exact absurd (nle (by omega) (by omega) c38) (by omega)
            · refine z_iconst (v := 0) h dX7_strange_41 (by decide) ?_
              refine z_istore_n h dX7_strange_42 rfl (by decide) ?_
              exact z_lk (LU 4 0 I2 J2 rfl hF2 rfl) ⟨rfl, rfl, rfl, rfl, trivial⟩
        refine z_iconst (v := 0) h dX7_strange_31 (by decide) ?_
        refine z_istore_n h dX7_strange_32 rfl (by decide) ?_
        exact z_lk (LT _ 0 I1 J1 (Nat.zero_add _) hF1 rfl) ⟨rfl, rfl, rfl, trivial⟩
      · refine z_iconst (v := -1) h dX7_strange_29 (by decide) ?_
        exact ret ⟨_, _, rfl, hF1, by rw [if_neg (fun v => c26 v.2.2)]⟩ dX7_strange_30 rfl

set_option maxHeartbeats 4000000 in
set_option maxRecDepth 100000 in
theorem c_X7_count (l : Launch) {E : zE} {S : zS} {I : Nat → Nat → Int32} {J : Nat → Nat → Int64} {R : Nat → Nat → Option Nat} {x ro ba be : Nat} (hm : MB S R x ro ba be) {td m : Nat} (hD : TD S R I x td m) (hW : WT (fun i w => tdP I td i w) m) {w : Int32} : zIP l yX7_count wsX7_count rmX7_count E S [.ref x, .int w] (I, J, R) (fun r ν => ∃ I' J', ν = (I', J', R) ∧ FQ (zu I x 0 0) I' J J' x ro ba be ∧ r = (if w = 0 then I x 2 else if w = 1 then bcJ (fcM I td m) else if w = 2 then nI (stg (I x 9) (fun i w => tdP I td i w) m) else if w = 3 then (if I x 9 ≠ 0 ∧ QA (fun i w => tdP I td i w) m = -1 then nI (cU (fun u k => AB (fun i w => tdP I td i w) m (nI u) (bt (al m)) k none) 4) else 0) else if w = 4 then I x 12 else -1)) := by
  refine z_metIP (cc := cX7_count) (maxL := 5) (ty := .int) (by decide) rfl (Nat.le_of_ble_eq_true rfl) (fun X h ret => ?_)
  show zV X E S 0 0 (I, J, R) 0 _ []
  obtain ⟨n1, n2⟩ := td_ne hm hD
  obtain ⟨m1, m2, m3, m4, m5, m6, m7, m8⟩ := id hm
  have hP0 := td_z0 (I := I) n2
  have hD0 := hD.z0
  have hK := kk_KC (p := (fun i w => tdP I td i w)) hW.1
  obtain ⟨hk0, hk1⟩ := kc_le hK
  generalize hPP : (fun i w => tdP I td i w) = P at *
  have d1 := hD0.1
  refine z_aload_n h dX7_count_0 rfl rfl ?_
  refine z_iconst (v := 0) h dX7_count_1 (by decide) ?_
  refine z_putI h (by assumption) rfl kw7 0 (by decide) rfl rfl (rfl) (rfl) kf_RX7_42 dX7_count_2 ?_
  refine z_iconst (v := 0) h dX7_count_5 (by decide) ?_
  refine z_istore_n h dX7_count_6 rfl (by decide) ?_
  refine z_iload_n h dX7_count_7 rfl rfl ?_
  by_cases w0 : w = 0
  · subst w0
    refine z_tswI h 44 dX7_count_8 (by decide) (by decide) (off := 36) (by decide) (by decide) ?_
    refine z_aload_n h dX7_count_44 rfl rfl ?_
    refine z_getI h (by assumption) rfl kw7 2 (by decide) rfl kf_RX7_46 dX7_count_45 ?_
    exact ret ⟨_, _, rfl, FQ.rf, by rw [zu_k (by decide)]; rfl⟩ dX7_count_48 rfl
  by_cases w1 : w = 1
  · subst w1
    refine z_tswI h 49 dX7_count_8 (by decide) (by decide) (off := 41) (by decide) (by decide) ?_
    refine z_aload_n h dX7_count_49 rfl rfl ?_
    refine z_callVI h (c_X7_facts l hD0) (by assumption) rfl gm_RX7_282 rfl ⟨rfl, rfl⟩ 0 (by decide +kernel) ⟨by decide, by decide⟩ rfl rfl (Nat.le_of_ble_eq_true rfl) ⟨Nat.zero_le _, Nat.zero_le _⟩ dX7_count_50 ?_
    rw [fcM_P (I' := I) (by rw [hP0, hPP]) m]
    refine z_callSI h (c_J6_bitCount l) (va_cwS 1 h.2.2.2.2.1 gm_RX7_285 rfl rfl rfl (by decide +kernel) ⟨by decide, by decide⟩) rfl rfl (Nat.le_of_ble_eq_true rfl) ⟨Nat.zero_le _, Nat.zero_le _⟩ dX7_count_53 ?_
    exact ret ⟨_, _, rfl, FQ.rf, by rfl⟩ dX7_count_56 rfl
  by_cases w2 : w = 2
  · subst w2
    refine z_tswI h 57 dX7_count_8 (by decide) (by decide) (off := 49) (by decide) (by decide) ?_
    refine z_aload_n h dX7_count_57 rfl rfl ?_
    refine z_callVI h (c_X7_stages l hD0) (by assumption) rfl gm_RX7_276 rfl ⟨rfl, rfl⟩ 0 (by decide +kernel) ⟨by decide, by decide⟩ rfl rfl (Nat.le_of_ble_eq_true rfl) ⟨Nat.zero_le _, Nat.zero_le _⟩ dX7_count_58 ?_
    exact ret ⟨_, _, rfl, FQ.rf, by rw [sgM_fq (x := x) (I := I) (by rw [hP0, hPP]) (by rw [zu_k (by decide)]), hPP]; rfl⟩ dX7_count_61 rfl
  by_cases w3 : w = 3
  · subst w3
    refine z_tswI h 62 dX7_count_8 (by decide) (by decide) (off := 54) (by decide) (by decide) ?_
    refine z_aload_n h dX7_count_62 rfl rfl ?_
    refine z_getI h (by assumption) rfl kw7 9 (by decide) rfl kf_RX7_207 dX7_count_63 ?_
    rw [zu_k (by decide)]
    refine z_if_eq h 77 dX7_count_66 (by decide) (fun c66 => ?_) (fun c66 => ?_)
    · refine z_iconst (v := 0) h dX7_count_77 (by decide) ?_
      exact ret ⟨_, _, rfl, FQ.rf, by rw [if_neg (show ¬ (3 : Int32) = 0 by decide), if_neg (show ¬ (3 : Int32) = 1 by decide), if_neg (show ¬ (3 : Int32) = 2 by decide), if_pos (show (3 : Int32) = 3 from rfl), if_neg (fun v => v.1 c66)]⟩ dX7_count_78 rfl
    · refine z_aload_n h dX7_count_69 rfl rfl ?_
      refine z_callVIP h (c_X7_quarrelAt l hm hD0 (by rw [hP0]; exact hW)) (by assumption) rfl gm_RX7_255 rfl ⟨rfl, rfl⟩ 0 (by decide +kernel) ⟨by decide, by decide⟩ rfl rfl (Nat.le_of_ble_eq_true rfl) ⟨Nat.zero_le _, Nat.zero_le _⟩ dX7_count_70 (fun r ν hν => ?_)
      rw [hP0] at hν
      obtain ⟨I1, J1, rfl, hr, hF1⟩ := hν
      subst hr
      refine z_iconst (v := -1) h dX7_count_73 (by decide) ?_
      refine z_icmp_eq h 79 dX7_count_74 (by decide) (fun c74 => ?_) (fun c74 => ?_)
      · have LU : ∀ (du u : Nat) (I3 : Nat → Nat → Int32) (J3 : Nat → Nat → Int64), u + du = 4 → FQ (zu I x 0 0) I3 J J3 x ro ba be → zV X E S 0 0 (I3, J3, R) 81 [(0, .ref x), (2, .int (nI (cU (fun u k => AB P m (nI u) (bt (al m)) k none) u))), (3, .int (nI u))] [] := by
          intro du
          induction du with
          | zero =>
            intro u I3 J3 hu hF3
            have e : u = 4 := by omega
            subst e
            refine z_iload_n h dX7_count_81 rfl rfl ?_
            refine z_iconst (v := 4) h dX7_count_82 (by decide) ?_
            rw [show (4 : Int32) = nI 4 from rfl]
            refine z_icmp_ge h 127 dX7_count_83 (by decide) (fun c83 => ?_) (fun c83 => ?_)
            · refine z_iload_n h dX7_count_127 rfl rfl ?_
              exact ret ⟨I3, J3, rfl, hF3, by rw [if_neg (show ¬ (3 : Int32) = 0 by decide), if_neg (show ¬ (3 : Int32) = 1 by decide), if_neg (show ¬ (3 : Int32) = 2 by decide), if_pos (show (3 : Int32) = 3 from rfl), if_pos ⟨c66, c74⟩]⟩ dX7_count_128 rfl
            · exact absurd (nI_le (by decide) (by decide)) c83
          | succ du ihU =>
            intro u I3 J3 hu hF3
            have LN : ∀ (dk k : Nat) (I4 : Nat → Nat → Int32) (J4 : Nat → Nat → Int64), k + dk = 8 → FQ (zu I x 0 0) I4 J J4 x ro ba be → zV X E S 0 0 (I4, J4, R) 89 [(0, .ref x), (2, .int (nI (cU (fun u k => AB P m (nI u) (bt (al m)) k none) u + cN (fun k => AB P m (nI u) (bt (al m)) k none) k))), (3, .int (nI u)), (4, .int (nI k))] [] := by
              intro dk
              induction dk with
              | zero =>
                intro k I4 J4 hk hF4
                have e : k = 8 := by omega
                subst e
                refine z_iload h dX7_count_89 rfl ?_
                refine z_bipush (v := 8) h dX7_count_91 (by decide) ?_
                rw [show (8 : Int32) = nI 8 from rfl]
                refine z_icmp_ge h 121 dX7_count_93 (by decide) (fun c93 => ?_) (fun c93 => ?_)
                · refine z_iinc h dX7_count_121 rfl (nI_1 u) (by decide) ?_
                  refine z_goto h 81 dX7_count_124 (by decide) ?_
                  exact z_lk (ihU (u + 1) I4 J4 (by omega) hF4) ⟨rfl, rfl, rfl, trivial⟩
                · exact absurd (nI_le (by decide) (by decide)) c93
              | succ dk ihN =>
                intro k I4 J4 hk hF4
                have hD4 := hF4.TD hD0
                have d4 := hD4.1
                have hP4 : (fun i w => tdP I4 td i w) = P := by rw [hF4.tds n1 n2, hP0]
                refine z_iload h dX7_count_89 rfl ?_
                refine z_bipush (v := 8) h dX7_count_91 (by decide) ?_
                rw [show (8 : Int32) = nI 8 from rfl]
                refine z_icmp_ge h 121 dX7_count_93 (by decide) (fun c93 => ?_) (fun c93 => ?_)
                · exact absurd (nle (by decide) (by omega) c93) (by omega)
                · refine z_iload_n h dX7_count_96 rfl rfl ?_
                  refine z_aload_n h dX7_count_97 rfl rfl ?_
                  refine z_iload h dX7_count_98 rfl ?_
                  refine z_iload_n h dX7_count_100 rfl rfl ?_
                  refine z_iconst (v := 0) h dX7_count_101 (by decide) ?_
                  refine z_callVIP h (c_X7_amounts l hm hD4 (by rw [hP4]; exact hW) (na := k) (by omega)) (by assumption) rfl gm_RX7_279 rfl ⟨rfl, rfl⟩ 3 (by decide +kernel) ⟨by decide, by decide⟩ rfl rfl (Nat.le_of_ble_eq_true rfl) ⟨Nat.zero_le _, Nat.zero_le _⟩ dX7_count_102 (fun r ν hν => ?_)
                  rw [hP4] at hν
                  obtain ⟨I5, J5, rfl, hr, hF5, hv⟩ := hν
                  subst hr
                  have hF5 := hF4.tr hF5
                  refine z_if_eq h 112 dX7_count_105 (by decide) (fun c105 => ?_) (fun c105 => ?_)
                  · have c105 := b2i_0.mp c105
                    refine z_iconst (v := 0) h dX7_count_112 (by decide) ?_
                    refine z_iadd h dX7_count_113 ?_
                    refine z_istore_n h dX7_count_114 rfl (by decide) ?_
                    refine z_iinc h dX7_count_115 rfl (nI_1 k) (by decide) ?_
                    refine z_goto h 89 dX7_count_118 (by decide) ?_
                    have e := ihN (k + 1) I5 J5 (by omega) hF5
                    unfold cN at e
                    rw [show AB P m (nI u) (bt (al m)) k none = false from c105, if_neg (show ¬ false = true by decide)] at e
                    rw [show (0 : Int32) = nI 0 from rfl, nI_add, Nat.add_assoc]
                    exact z_lk e ⟨rfl, rfl, rfl, rfl, trivial⟩
                  · have c105 := b2i_n0.mp c105
                    refine z_iconst (v := 1) h dX7_count_108 (by decide) ?_
                    refine z_goto h 113 dX7_count_109 (by decide) ?_
                    refine z_iadd h dX7_count_113 ?_
                    refine z_istore_n h dX7_count_114 rfl (by decide) ?_
                    refine z_iinc h dX7_count_115 rfl (nI_1 k) (by decide) ?_
                    refine z_goto h 89 dX7_count_118 (by decide) ?_
                    have e := ihN (k + 1) I5 J5 (by omega) hF5
                    unfold cN at e
                    rw [show AB P m (nI u) (bt (al m)) k none = true from c105, if_pos rfl] at e
                    rw [show (1 : Int32) = nI 1 from rfl, nI_add, Nat.add_assoc]
                    exact z_lk e ⟨rfl, rfl, rfl, rfl, trivial⟩
            refine z_iload_n h dX7_count_81 rfl rfl ?_
            refine z_iconst (v := 4) h dX7_count_82 (by decide) ?_
            rw [show (4 : Int32) = nI 4 from rfl]
            refine z_icmp_ge h 127 dX7_count_83 (by decide) (fun c83 => ?_) (fun c83 => ?_)
            · exact absurd (nle (by decide) (by omega) c83) (by omega)
            · refine z_iconst (v := 0) h dX7_count_86 (by decide) ?_
              refine z_istore h dX7_count_87 (by decide) ?_
              exact z_lk (LN 8 0 I3 J3 rfl hF3) ⟨rfl, rfl, rfl, rfl, trivial⟩
        refine z_iconst (v := 0) h dX7_count_79 (by decide) ?_
        refine z_istore_n h dX7_count_80 rfl (by decide) ?_
        exact z_lk (LU 4 0 I1 J1 rfl hF1) ⟨rfl, rfl, rfl, trivial⟩
      · refine z_iconst (v := 0) h dX7_count_77 (by decide) ?_
        exact ret ⟨_, _, rfl, hF1, by rw [if_neg (show ¬ (3 : Int32) = 0 by decide), if_neg (show ¬ (3 : Int32) = 1 by decide), if_neg (show ¬ (3 : Int32) = 2 by decide), if_pos (show (3 : Int32) = 3 from rfl), if_neg (fun v => c74 v.2)]⟩ dX7_count_78 rfl
  by_cases w4 : w = 4
  · subst w4
    refine z_tswI h 129 dX7_count_8 (by decide) (by decide) (off := 121) (by decide) (by decide) ?_
    refine z_aload_n h dX7_count_129 rfl rfl ?_
    refine z_getI h (by assumption) rfl kw7 12 (by decide) rfl kf_RX7_211 dX7_count_130 ?_
    exact ret ⟨_, _, rfl, FQ.rf, by rw [zu_k (by decide)]; rfl⟩ dX7_count_133 rfl
  · refine z_tswO h 134 dX7_count_8 (by
      have e : ∀ n : Int32, w ≠ n → w.toInt ≠ n.toInt := fun n q v => q (Int32.toInt_inj.mp v)
      have q0 := e 0 w0
      have q1 := e 1 w1
      have q2 := e 2 w2
      have q3 := e 3 w3
      have q4 := e 4 w4
      rw [show (0 : Int32).toInt = 0 from rfl] at q0
      rw [show (1 : Int32).toInt = 1 from rfl] at q1
      rw [show (2 : Int32).toInt = 2 from rfl] at q2
      rw [show (3 : Int32).toInt = 3 from rfl] at q3
      rw [show (4 : Int32).toInt = 4 from rfl] at q4
      omega) (by decide) ?_
    refine z_iconst (v := -1) h dX7_count_134 (by decide) ?_
    exact ret ⟨_, _, rfl, FQ.rf, by rw [if_neg w0, if_neg w1, if_neg w2, if_neg w3, if_neg w4]⟩ dX7_count_135 rfl
