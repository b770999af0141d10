/-! WHAT IS ASKED OF THE REFERENCE: answer, amount, idle -/
theorem TD.z0 {S : zS} {R : Nat → Nat → Option Nat} {I : Nat → Nat → Int32} {x td m : Nat} (h : TD S R I x td m) : TD S R (zu I x 0 0) x td m := ⟨h.1, h.2.1, h.2.2.1, by rw [zu_k (by decide)]; exact h.2.2.2.1, h.2.2.2.2⟩
theorem td_z0 {I : Nat → Nat → Int32} {x td : Nat} (n : td ≠ x) : (fun i w => tdP (zu I x 0 0) td i w) = fun i w => tdP I td i w := by funext i w; unfold tdP; rw [zu_o n]
theorem AK.z0 {S : zS} {R : Nat → Nat → Option Nat} {I : Nat → Nat → Int32} {x ak na : Nat} {ob : Option Nat} (n : ak ≠ x) (h : AK S R I x ak na ob) : AK S R (zu I x 0 0) x ak na ob := by
  obtain ⟨h1, h2, h3, h4, h5⟩ := h
  exact ⟨h1, h2, by rw [zu_a n]; exact h3, h4, by rw [zu_a n]; exact h5⟩
theorem fin_val {w : Int32} {ρ : Nat → Int} {G : Int} {t b : Int64} (h8 : ab (ρ 8) ≤ 1000000000) (h9 : ab (ρ 9) ≤ 1000000000000000) (hg : Nat.gcd (ρ 9).natAbs (ρ 8).natAbs = 1) (ht : t.toInt = ρ 9 + ρ 8 * G) (hb : b.toInt = ρ 8) (hG : ab G ≤ 100000) : (ptM w t b).toInt = val w ρ G := by
  have h1 : ab (ρ 8 * G) ≤ 1000000000 * 100000 := by rw [ab_mul]; exact mle h8 hG (ab_0 _) (by decide)
  have h2 := ab_add (ρ 9) (ρ 8 * G)
  rw [ptM_val (by rw [ht, hb]; exact gcd_sft hg) (by rw [ht]; omega) (by rw [hb]; omega), ht, hb]
  rfl
def gA (p : Nat → Nat → Int32) (m : Nat) (a1 a2 un sg : Int32) : Int := gz p a1 un sg m + (if a2 = -1 then 0 else gz p a2 un sg m)
theorem gA_b {p : Nat → Nat → Int32} {m : Nat} (h : WT p m) (a1 a2 un sg : Int32) : ab (gA p m a1 a2 un sg) ≤ 20000 := by
  have h1 := gz_b5 h a1 un sg
  have h2 := gz_b5 h a2 un sg
  unfold gA
  split
  · rw [Int.add_zero]; omega
  · have := ab_add (gz p a1 un sg m) (gz p a2 un sg m); omega
theorem HA_sd {t : Int32} {p : Nat → Nat → Int32} {m : Nat} {un : Int32} {na : Nat} {ob : Option Nat} (h : HA t p m un na ob = true) : sd (redu (gth p m un (bt (al m)) m).1 (qrow na ob)) = true := by
  unfold HA AB at h
  simp only [Bool.and_eq_true] at h
  exact h.2.2
theorem i32_ix {x : Int32} {n : Nat} (hn : n + 1 < 2 ^ 31) (h : 0 ≤ x ∧ x ≤ nI n) : x = nI x.toNatClampNeg ∧ x.toNatClampNeg ≤ n := by
  rcases pk_ix x (n := n + 1) (by omega) with q | q | ⟨j, q1, q2⟩
  · exact absurd h.1 (Int32.not_le.mpr q)
  · have := Int32.le_trans q h.2
    exact absurd ((nI_leI (by omega) (by omega)).mp this) (by omega)
  · subst q2
    rw [nI_clamp (by omega)]
    exact ⟨rfl, by omega⟩

set_option maxHeartbeats 4000000 in
set_option maxRecDepth 100000 in
theorem c_X7_answer (l : Launch) {E : zE} {S : zS} {I : Nat → Nat → Int32} {J : Nat → Nat → Int64} {R : Nat → Nat → Option Nat} {x ro ba be : Nat} (hm : MB S R x ro ba be) {td m : Nat} (hD : TD S R I x td m) (hW : WT (fun i w => tdP I td i w) m) {ak na : Nat} {ob : Option Nat} (hQ : I x 9 ≠ 0 → AK S R I x ak na ob) {w : Int32} : zLP l yX7_answer wsX7_answer rmX7_answer E S [.ref x, .int w] (I, J, R) (fun r ν => ∃ I' J', ν = (I', J', R) ∧ FQ (zu I x 0 0) I' J J' x ro ba be ∧ r.toInt = (if (0 ≤ w ∧ w ≤ 1) ∧ HA (I x 9) (fun i w => tdP I td i w) m (I ak 3) na ob = true then val w (redu (gth (fun i w => tdP I td i w) m (I ak 3) (bt (al m)) m).1 (qrow na ob)) (gA (fun i w => tdP I td i w) m (I ak 1) (I ak 2) (I ak 3) (I ak 4)) else -1000000000000)) := by
  refine z_metLP (cc := cX7_answer) (maxL := 2) (by decide) rfl (Nat.le_of_ble_eq_true rfl) (fun X h ret => ?_)
  show zV X E S 0 0 (I, J, R) 0 _ []
  obtain ⟨n1, n2⟩ := td_ne hm hD
  obtain ⟨m1, m2, m3, m4, m5, m6, m7, m8⟩ := id hm
  have hP0 := td_z0 (I := I) n2
  have hD0 := hD.z0
  have hK := kk_KC (p := (fun i w => tdP I td i w)) hW.1
  obtain ⟨hk0, hk1⟩ := kc_le hK
  generalize hPP : (fun i w => tdP I td i w) = P at *
  have hnx : I x 9 ≠ 0 → ak ≠ x := fun w => (ak_ne hm (hQ w)).2
  have hQ0 : (zu I x 0 0) x 9 ≠ 0 → AK S R (zu I x 0 0) x ak na ob := fun w => by rw [zu_k (by decide)] at w; exact (hQ w).z0 (hnx w)
  refine z_aload_n h dX7_answer_0 rfl rfl ?_
  refine z_iconst (v := 0) h dX7_answer_1 (by decide) ?_
  refine z_putI h (by assumption) rfl kw7 0 (by decide) rfl rfl (rfl) (rfl) kf_RX7_42 dX7_answer_2 ?_
  refine z_iload_n h dX7_answer_5 rfl rfl ?_
  refine z_iconst (v := 0) h dX7_answer_6 (by decide) ?_
  refine z_iconst (v := 1) h dX7_answer_7 (by decide) ?_
  refine z_callSI h (c_X7_isIn l w 0 1) (va_cwS 3 h.2.2.2.2.1 gm_RX7_176 rfl rfl rfl (by decide +kernel) ⟨by decide, by decide⟩) rfl rfl (Nat.le_of_ble_eq_true rfl) ⟨Nat.zero_le _, Nat.zero_le _⟩ dX7_answer_8 ?_
  refine z_if_eq h 21 dX7_answer_11 (by decide) (fun c11 => ?_) (fun c11 => ?_)
  · have c11 := of_decide_eq_false (b2i_0.mp c11)
    refine z_ldc2 (v := -1000000000000) h (by decide +kernel) dX7_answer_21 ?_
    exact ret ⟨_, _, rfl, FQ.rf, by rw [if_neg (fun v => c11 v.1)]; rfl⟩ dX7_answer_24
  · have c11 := of_decide_eq_true (b2i_n0.mp c11)
    refine z_aload_n h dX7_answer_14 rfl rfl ?_
    refine z_callVIP h (c_X7_hasAnswer l hm hD0 (by rw [hP0]; exact hW) hQ0) (by assumption) rfl gm_RX7_267 rfl ⟨rfl, rfl⟩ 0 (by decide +kernel) ⟨by decide, by decide⟩ rfl rfl (Nat.le_of_ble_eq_true rfl) ⟨Nat.zero_le _, Nat.zero_le _⟩ dX7_answer_15 (fun r ν hν => ?_)
    rw [hP0, zu_k (by decide)] at hν
    obtain ⟨I1, J1, rfl, hr, hF1, hv⟩ := hν
    have hAKu : I x 9 ≠ 0 → zu I x 0 0 ak = I ak := fun w => zu_o (hnx w)
    have hHA : HA (I x 9) P m (zu I x 0 0 ak 3) na ob = HA (I x 9) P m (I ak 3) na ob := by
      by_cases w : I x 9 ≠ 0
      · rw [hAKu w]
      · unfold HA
        rw [decide_eq_false w]; rfl
    rw [hHA] at hr
    subst hr
    refine z_if_ne h 25 dX7_answer_18 (by decide) (fun c18 => ?_) (fun c18 => ?_)
    · have hv := hv c18
      have c18 := b2i_n0.mp c18
      have h9 : I x 9 ≠ 0 := by
        unfold HA at c18
        simp only [Bool.and_eq_true, decide_eq_true_eq] at c18
        exact c18.1.1
      have hQ1 := hQ h9
      obtain ⟨a1, a2⟩ := ak_ne hm hQ1
      rw [hAKu h9] at hv
      have eak : I1 ak = I ak := (hF1.1 ak a1 a2).trans (hAKu h9)
      have hri := (gth_ri hW (I ak 3) (bt (al m)) m (Nat.le_refl _)).1
      obtain ⟨q1, q2, q3, q4, q5⟩ := id hQ1
      obtain ⟨hb8, hb9, hgcd⟩ := q_bound hk0 hk1 hri q4 hQ1.ob (HA_sd c18)
      generalize hρ : redu (gth P m (I ak 3) (bt (al m)) m).1 (qrow na ob) = ρ at *
      have hD1 := hF1.TD hD0
      have hP1 : (fun i w => tdP I1 td i w) = P := by rw [hF1.tds n1 n2, hP0]
      have hG1 := gz_b5 hW (I ak 1) (I ak 3) (I ak 4)
      have hG2 := gz_b5 hW (I ak 2) (I ak 3) (I ak 4)
      have hGA := gA_b hW (I ak 1) (I ak 2) (I ak 3) (I ak 4)
      have E1 : (mrM P (I ak 1) (I ak 3) (I ak 4) m).toInt = gz P (I ak 1) (I ak 3) (I ak 4) m := mrM_gz hW.1 hW.2 _ _ _ m (Nat.le_refl _)
      have E2 : (mrM P (I ak 2) (I ak 3) (I ak 4) m).toInt = gz P (I ak 2) (I ak 3) (I ak 4) m := mrM_gz hW.1 hW.2 _ _ _ m (Nat.le_refl _)
      have T1 : (J1 x 25 + J1 x 26 * (mrM P (I ak 1) (I ak 3) (I ak 4) m).toInt64).toInt = ρ 9 + ρ 8 * gz P (I ak 1) (I ak 3) (I ak 4) m := by
        rw [tb_step (by rw [hv.1]; exact hb9) (by rw [hv.2.1]; exact hb8) (by rw [E1]; omega), hv.1, hv.2.1, E1]
      have hne : ¬ J1 x 26 = 0 := fun w => hv.2.2 (by rw [← hv.2.1, w]; rfl)
      refine z_aload_n h dX7_answer_25 rfl rfl ?_
      refine z_dup h dX7_answer_26 rfl ?_
      refine z_getJ h (by assumption) rfl kw7 25 (by decide) rfl kf_RX7_244 dX7_answer_27 ?_
      refine z_aload_n h dX7_answer_30 rfl rfl ?_
      refine z_getJ h (by assumption) rfl kw7 26 (by decide) rfl kf_RX7_248 dX7_answer_31 ?_
      refine z_aload_n h dX7_answer_34 rfl rfl ?_
      refine z_aload_n h dX7_answer_35 rfl rfl ?_
      refine z_getR h (by assumption) rfl kw7 5 (by decide) rfl (by assumption) kf_RX7_20 dX7_answer_36 ?_
      refine z_iconst (v := 1) h dX7_answer_39 (by decide) ?_
      refine z_iald h (by assumption) (zix_c _ (j := 1) rfl (by decide) (by decide)) dX7_answer_40 ?_
      refine z_aload_n h dX7_answer_41 rfl rfl ?_
      refine z_getR h (by assumption) rfl kw7 5 (by decide) rfl (by assumption) kf_RX7_20 dX7_answer_42 ?_
      refine z_iconst (v := 3) h dX7_answer_45 (by decide) ?_
      refine z_iald h (by assumption) (zix_c _ (j := 3) rfl (by decide) (by decide)) dX7_answer_46 ?_
      refine z_aload_n h dX7_answer_47 rfl rfl ?_
      refine z_getR h (by assumption) rfl kw7 5 (by decide) rfl (by assumption) kf_RX7_20 dX7_answer_48 ?_
      refine z_iconst (v := 4) h dX7_answer_51 (by decide) ?_
      refine z_iald h (by assumption) (zix_c _ (j := 4) rfl (by decide) (by decide)) dX7_answer_52 ?_
      rw [eak]
      refine z_callVI h (c_X7_more l hD1) (by assumption) rfl gm_RX7_223 rfl ⟨rfl, rfl⟩ 3 (by decide +kernel) ⟨by decide, by decide⟩ rfl rfl (Nat.le_of_ble_eq_true rfl) ⟨Nat.zero_le _, Nat.zero_le _⟩ dX7_answer_53 ?_
      rw [hP1]
      refine z_i2l h dX7_answer_56 rfl ?_
      refine z_lmul h dX7_answer_57 ?_
      refine z_ladd h dX7_answer_58 ?_
      refine z_putJ h (by assumption) rfl kw7 25 (by decide) rfl rfl (rfl) (rfl) kf_RX7_244 dX7_answer_59 ?_
      refine z_aload_n h dX7_answer_62 rfl rfl ?_
      refine z_getR h (by assumption) rfl kw7 5 (by decide) rfl (by assumption) kf_RX7_20 dX7_answer_63 ?_
      refine z_iconst (v := 2) h dX7_answer_66 (by decide) ?_
      refine z_iald h (by assumption) (zix_c _ (j := 2) rfl (by decide) (by decide)) dX7_answer_67 ?_
      rw [eak]
      refine z_iconst (v := -1) h dX7_answer_68 (by decide) ?_
      refine z_icmp_eq h 109 dX7_answer_69 (by decide) (fun c69 => ?_) (fun c69 => ?_)
      · first
          | (refine z_aload_n h dX7_answer_109 rfl rfl ?_
             refine z_iload_n h dX7_answer_110 rfl rfl ?_
             refine z_callVL h (c_X7_part l hD1.1 (by rw [zu_k (by decide)]; exact hne)) hD1.1 rfl gm_RX7_272 rfl ⟨rfl, rfl⟩ 1 (by decide +kernel) ⟨by decide, by decide⟩ rfl rfl (Nat.le_of_ble_eq_true rfl) ⟨Nat.zero_le _, Nat.zero_le _⟩ dX7_answer_111 ?_
             refine ret ⟨_, _, rfl, hF1.pt, ?_⟩ dX7_answer_114
             rw [if_pos ⟨c11, c18⟩]
             rw [zu_s, zu_k (by decide)]
             refine fin_val hb8 hb9 hgcd ?_ hv.2.1 (by omega)
             rw [T1]
             unfold gA
             rw [if_pos c69, Int.add_zero])
          | (rw [zu_zu]
             refine z_aload_n h dX7_answer_109 rfl rfl ?_
             refine z_iload_n h dX7_answer_110 rfl rfl ?_
             refine z_callVL h (c_X7_part l hD1.1 (by rw [zu_k (by decide)]; exact hne)) hD1.1 rfl gm_RX7_272 rfl ⟨rfl, rfl⟩ 1 (by decide +kernel) ⟨by decide, by decide⟩ rfl rfl (Nat.le_of_ble_eq_true rfl) ⟨Nat.zero_le _, Nat.zero_le _⟩ dX7_answer_111 ?_
             refine ret ⟨_, _, rfl, hF1.pt, ?_⟩ dX7_answer_114
             rw [if_pos ⟨c11, c18⟩]
             rw [zu_s, zu_k (by decide)]
             refine fin_val hb8 hb9 hgcd ?_ hv.2.1 (by omega)
             have hb1 : ab (ρ 8 * gz P (I ak 1) (I ak 3) (I ak 4) m) ≤ 1000000000 * 10000 := by rw [ab_mul]; exact mle hb8 hG1 (ab_0 _) (by decide)
             have hb2 : ab (ρ 8 * gz P (I ak 2) (I ak 3) (I ak 4) m) ≤ 1000000000 * 10000 := by rw [ab_mul]; exact mle hb8 hG2 (ab_0 _) (by decide)
             have e2 : (J1 x 26 * (mrM P (I ak 2) (I ak 3) (I ak 4) m).toInt64).toInt = ρ 8 * gz P (I ak 2) (I ak 3) (I ak 4) m := by rw [i64_mul (by rw [wide, hv.2.1, E2]; omega), wide, hv.2.1, E2]
             have s1 := ab_add (ρ 9) (ρ 8 * gz P (I ak 1) (I ak 3) (I ak 4) m)
             have s2 := ab_add (ρ 9 + ρ 8 * gz P (I ak 1) (I ak 3) (I ak 4) m) (ρ 8 * gz P (I ak 2) (I ak 3) (I ak 4) m)
             rw [i64_add (by rw [T1, e2]; omega), T1, e2]
             unfold gA
             rw [if_neg c69, Int.mul_add, Int.add_assoc])
      · refine z_aload_n h dX7_answer_72 rfl rfl ?_
        refine z_dup h dX7_answer_73 rfl ?_
        refine z_getJ h (by assumption) rfl kw7 25 (by decide) rfl kf_RX7_244 dX7_answer_74 ?_
        rw [zu_s]
        refine z_aload_n h dX7_answer_77 rfl rfl ?_
        refine z_getJ h (by assumption) rfl kw7 26 (by decide) rfl kf_RX7_248 dX7_answer_78 ?_
        rw [zu_k (by decide)]
        refine z_aload_n h dX7_answer_81 rfl rfl ?_
        refine z_aload_n h dX7_answer_82 rfl rfl ?_
        refine z_getR h (by assumption) rfl kw7 5 (by decide) rfl (by assumption) kf_RX7_20 dX7_answer_83 ?_
        refine z_iconst (v := 2) h dX7_answer_86 (by decide) ?_
        refine z_iald h (by assumption) (zix_c _ (j := 2) rfl (by decide) (by decide)) dX7_answer_87 ?_
        refine z_aload_n h dX7_answer_88 rfl rfl ?_
        refine z_getR h (by assumption) rfl kw7 5 (by decide) rfl (by assumption) kf_RX7_20 dX7_answer_89 ?_
        refine z_iconst (v := 3) h dX7_answer_92 (by decide) ?_
        refine z_iald h (by assumption) (zix_c _ (j := 3) rfl (by decide) (by decide)) dX7_answer_93 ?_
        refine z_aload_n h dX7_answer_94 rfl rfl ?_
        refine z_getR h (by assumption) rfl kw7 5 (by decide) rfl (by assumption) kf_RX7_20 dX7_answer_95 ?_
        refine z_iconst (v := 4) h dX7_answer_98 (by decide) ?_
        refine z_iald h (by assumption) (zix_c _ (j := 4) rfl (by decide) (by decide)) dX7_answer_99 ?_
        rw [eak]
        refine z_callVI h (c_X7_more l hD1) (by assumption) rfl gm_RX7_223 rfl ⟨rfl, rfl⟩ 3 (by decide +kernel) ⟨by decide, by decide⟩ rfl rfl (Nat.le_of_ble_eq_true rfl) ⟨Nat.zero_le _, Nat.zero_le _⟩ dX7_answer_100 ?_
        rw [hP1]
        refine z_i2l h dX7_answer_103 rfl ?_
        refine z_lmul h dX7_answer_104 ?_
        refine z_ladd h dX7_answer_105 ?_
        refine z_putJ h (by assumption) rfl kw7 25 (by decide) rfl rfl (rfl) (rfl) kf_RX7_244 dX7_answer_106 ?_
        first
          | (refine z_aload_n h dX7_answer_109 rfl rfl ?_
             refine z_iload_n h dX7_answer_110 rfl rfl ?_
             refine z_callVL h (c_X7_part l hD1.1 (by rw [zu_k (by decide)]; exact hne)) hD1.1 rfl gm_RX7_272 rfl ⟨rfl, rfl⟩ 1 (by decide +kernel) ⟨by decide, by decide⟩ rfl rfl (Nat.le_of_ble_eq_true rfl) ⟨Nat.zero_le _, Nat.zero_le _⟩ dX7_answer_111 ?_
             refine ret ⟨_, _, rfl, hF1.pt, ?_⟩ dX7_answer_114
             rw [if_pos ⟨c11, c18⟩]
             rw [zu_s, zu_k (by decide)]
             refine fin_val hb8 hb9 hgcd ?_ hv.2.1 (by omega)
             rw [T1]
             unfold gA
             rw [if_pos c69, Int.add_zero])
          | (rw [zu_zu]
             refine z_aload_n h dX7_answer_109 rfl rfl ?_
             refine z_iload_n h dX7_answer_110 rfl rfl ?_
             refine z_callVL h (c_X7_part l hD1.1 (by rw [zu_k (by decide)]; exact hne)) hD1.1 rfl gm_RX7_272 rfl ⟨rfl, rfl⟩ 1 (by decide +kernel) ⟨by decide, by decide⟩ rfl rfl (Nat.le_of_ble_eq_true rfl) ⟨Nat.zero_le _, Nat.zero_le _⟩ dX7_answer_111 ?_
             refine ret ⟨_, _, rfl, hF1.pt, ?_⟩ dX7_answer_114
             rw [if_pos ⟨c11, c18⟩]
             rw [zu_s, zu_k (by decide)]
             refine fin_val hb8 hb9 hgcd ?_ hv.2.1 (by omega)
             have hb1 : ab (ρ 8 * gz P (I ak 1) (I ak 3) (I ak 4) m) ≤ 1000000000 * 10000 := by rw [ab_mul]; exact mle hb8 hG1 (ab_0 _) (by decide)
             have hb2 : ab (ρ 8 * gz P (I ak 2) (I ak 3) (I ak 4) m) ≤ 1000000000 * 10000 := by rw [ab_mul]; exact mle hb8 hG2 (ab_0 _) (by decide)
             have e2 : (J1 x 26 * (mrM P (I ak 2) (I ak 3) (I ak 4) m).toInt64).toInt = ρ 8 * gz P (I ak 2) (I ak 3) (I ak 4) m := by rw [i64_mul (by rw [wide, hv.2.1, E2]; omega), wide, hv.2.1, E2]
             have s1 := ab_add (ρ 9) (ρ 8 * gz P (I ak 1) (I ak 3) (I ak 4) m)
             have s2 := ab_add (ρ 9 + ρ 8 * gz P (I ak 1) (I ak 3) (I ak 4) m) (ρ 8 * gz P (I ak 2) (I ak 3) (I ak 4) m)
             rw [i64_add (by rw [T1, e2]; omega), T1, e2]
             unfold gA
             rw [if_neg c69, Int.mul_add, Int.add_assoc])
    · have c18 := b2i_0.mp c18
      refine z_ldc2 (v := -1000000000000) h (by decide +kernel) dX7_answer_21 ?_
      exact ret ⟨_, _, rfl, hF1, by rw [if_neg (fun v => by rw [c18] at v; exact absurd v.2 (by decide))]; rfl⟩ dX7_answer_24

set_option maxHeartbeats 4000000 in
set_option maxRecDepth 100000 in
theorem c_X7_amount (l : Launch) {E : zE} {S : zS} {I : Nat → Nat → Int32} {J : Nat → Nat → Int64} {R : Nat → Nat → Option Nat} {x ro ba be : Nat} (hm : MB S R x ro ba be) {td m : Nat} (hD : TD S R I x td m) (hW : WT (fun i w => tdP I td i w) m) {nm un sg w : Int32} : zLP l yX7_amount wsX7_amount rmX7_amount E S [.ref x, .int nm, .int un, .int sg, .int w] (I, J, R) (fun r ν => ∃ I' J', ν = (I', J', R) ∧ FQ (zu I x 0 0) I' J J' x ro ba be ∧ r.toInt = (if (0 ≤ w ∧ w ≤ 1) ∧ (0 ≤ nm ∧ nm ≤ 7) ∧ (0 ≤ un ∧ un ≤ 3) ∧ (0 ≤ sg ∧ sg ≤ sgM (zu I x 0 0) td (if zu I x 0 0 x 9 = 0 then 0 else 1) m - 1) ∧ QA (fun i w => tdP I td i w) m = -1 ∧ AB (fun i w => tdP I td i w) m un (bt (al m)) nm.toNatClampNeg none = true then val w (redu (gth (fun i w => tdP I td i w) m un (bt (al m)) m).1 (qrow nm.toNatClampNeg none)) (gz (fun i w => tdP I td i w) nm un sg m) else -1000000000000)) := by
  refine z_metLP (cc := cX7_amount) (maxL := 5) (by decide) rfl (Nat.le_of_ble_eq_true rfl) (fun X h ret => ?_)
  show zV X E S 0 0 (I, J, R) 0 _ []
  obtain ⟨n1, n2⟩ := td_ne hm hD
  obtain ⟨m1, m2, m3, m4, m5, m6, m7, m8⟩ := id hm
  have hP0 := td_z0 (I := I) n2
  have hD0 := hD.z0
  have hK := kk_KC (p := (fun i w => tdP I td i w)) hW.1
  obtain ⟨hk0, hk1⟩ := kc_le hK
  generalize hSG : sgM (zu I x 0 0) td (if zu I x 0 0 x 9 = 0 then 0 else 1) m = sgv at *
  generalize hPP : (fun i w => tdP I td i w) = P at *
  refine z_aload_n h dX7_amount_0 rfl rfl ?_
  refine z_iconst (v := 0) h dX7_amount_1 (by decide) ?_
  refine z_putI h (by assumption) rfl kw7 0 (by decide) rfl rfl (rfl) (rfl) kf_RX7_42 dX7_amount_2 ?_
  refine z_iload h dX7_amount_5 rfl ?_
  refine z_iconst (v := 0) h dX7_amount_7 (by decide) ?_
  refine z_iconst (v := 1) h dX7_amount_8 (by decide) ?_
  refine z_callSI h (c_X7_isIn l w 0 1) (va_cwS 3 h.2.2.2.2.1 gm_RX7_176 rfl rfl rfl (by decide +kernel) ⟨by decide, by decide⟩) rfl rfl (Nat.le_of_ble_eq_true rfl) ⟨Nat.zero_le _, Nat.zero_le _⟩ dX7_amount_9 ?_
  refine z_if_eq h 66 dX7_amount_12 (by decide) (fun c12 => ?_) (fun c12 => ?_)
  · have c12 := of_decide_eq_false (b2i_0.mp c12)
    refine z_ldc2 (v := -1000000000000) h (by decide +kernel) dX7_amount_66 ?_
    exact ret ⟨_, _, rfl, FQ.rf, by rw [if_neg (fun v => c12 v.1)]; rfl⟩ dX7_amount_69
  · have c12 := of_decide_eq_true (b2i_n0.mp c12)
    refine z_iload_n h dX7_amount_15 rfl rfl ?_
    refine z_iconst (v := 0) h dX7_amount_16 (by decide) ?_
    refine z_bipush (v := 7) h dX7_amount_17 (by decide) ?_
    refine z_callSI h (c_X7_isIn l nm 0 7) (va_cwS 3 h.2.2.2.2.1 gm_RX7_176 rfl rfl rfl (by decide +kernel) ⟨by decide, by decide⟩) rfl rfl (Nat.le_of_ble_eq_true rfl) ⟨Nat.zero_le _, Nat.zero_le _⟩ dX7_amount_19 ?_
    refine z_if_eq h 66 dX7_amount_22 (by decide) (fun c22 => ?_) (fun c22 => ?_)
    · have c22 := of_decide_eq_false (b2i_0.mp c22)
      refine z_ldc2 (v := -1000000000000) h (by decide +kernel) dX7_amount_66 ?_
      exact ret ⟨_, _, rfl, FQ.rf, by rw [if_neg (fun v => c22 v.2.1)]; rfl⟩ dX7_amount_69
    · have c22 := of_decide_eq_true (b2i_n0.mp c22)
      refine z_iload_n h dX7_amount_25 rfl rfl ?_
      refine z_iconst (v := 0) h dX7_amount_26 (by decide) ?_
      refine z_iconst (v := 3) h dX7_amount_27 (by decide) ?_
      refine z_callSI h (c_X7_isIn l un 0 3) (va_cwS 3 h.2.2.2.2.1 gm_RX7_176 rfl rfl rfl (by decide +kernel) ⟨by decide, by decide⟩) rfl rfl (Nat.le_of_ble_eq_true rfl) ⟨Nat.zero_le _, Nat.zero_le _⟩ dX7_amount_28 ?_
      refine z_if_eq h 66 dX7_amount_31 (by decide) (fun c31 => ?_) (fun c31 => ?_)
      · have c31 := of_decide_eq_false (b2i_0.mp c31)
        refine z_ldc2 (v := -1000000000000) h (by decide +kernel) dX7_amount_66 ?_
        exact ret ⟨_, _, rfl, FQ.rf, by rw [if_neg (fun v => c31 v.2.2.1)]; rfl⟩ dX7_amount_69
      · have c31 := of_decide_eq_true (b2i_n0.mp c31)
        refine z_iload_n h dX7_amount_34 rfl rfl ?_
        refine z_iconst (v := 0) h dX7_amount_35 (by decide) ?_
        refine z_aload_n h dX7_amount_36 rfl rfl ?_
        refine z_callVI h (c_X7_stages l hD0) (by assumption) rfl gm_RX7_276 rfl ⟨rfl, rfl⟩ 0 (by decide +kernel) ⟨by decide, by decide⟩ rfl rfl (Nat.le_of_ble_eq_true rfl) ⟨Nat.zero_le _, Nat.zero_le _⟩ dX7_amount_37 ?_
        rw [hSG]
        refine z_iconst (v := 1) h dX7_amount_40 (by decide) ?_
        refine z_isub h dX7_amount_41 ?_
        refine z_callSI h (c_X7_isIn l sg 0 (sgv - 1)) (va_cwS 3 h.2.2.2.2.1 gm_RX7_176 rfl rfl rfl (by decide +kernel) ⟨by decide, by decide⟩) rfl rfl (Nat.le_of_ble_eq_true rfl) ⟨Nat.zero_le _, Nat.zero_le _⟩ dX7_amount_42 ?_
        refine z_if_eq h 66 dX7_amount_45 (by decide) (fun c45 => ?_) (fun c45 => ?_)
        · have c45 := of_decide_eq_false (b2i_0.mp c45)
          refine z_ldc2 (v := -1000000000000) h (by decide +kernel) dX7_amount_66 ?_
          exact ret ⟨_, _, rfl, FQ.rf, by rw [if_neg (fun v => c45 v.2.2.2.1)]; rfl⟩ dX7_amount_69
        · have c45 := of_decide_eq_true (b2i_n0.mp c45)
          refine z_aload_n h dX7_amount_48 rfl rfl ?_
          refine z_callVIP h (c_X7_quarrelAt l hm hD0 (by rw [hP0]; exact hW)) (by assumption) rfl gm_RX7_255 rfl ⟨rfl, rfl⟩ 0 (by decide +kernel) ⟨by decide, by decide⟩ rfl rfl (Nat.le_of_ble_eq_true rfl) ⟨Nat.zero_le _, Nat.zero_le _⟩ dX7_amount_49 (fun r ν hν => ?_)
          rw [hP0] at hν
          obtain ⟨I1, J1, rfl, hr, hF1⟩ := hν
          subst hr
          refine z_iconst (v := -1) h dX7_amount_52 (by decide) ?_
          refine z_icmp_ne h 66 dX7_amount_53 (by decide) (fun c53 => ?_) (fun c53 => ?_)
          · refine z_ldc2 (v := -1000000000000) h (by decide +kernel) dX7_amount_66 ?_
            exact ret ⟨_, _, rfl, hF1, by rw [if_neg (fun v => c53 v.2.2.2.2.1)]; rfl⟩ dX7_amount_69
          · obtain ⟨k1, k2⟩ := i32_ix (n := 7) (by decide) c22
            generalize hna : nm.toNatClampNeg = na at *
            subst k1
            have hD1 := hF1.TD hD0
            have hP1 : (fun i w => tdP I1 td i w) = P := by rw [hF1.tds n1 n2, hP0]
            refine z_aload_n h dX7_amount_56 rfl rfl ?_
            refine z_iload_n h dX7_amount_57 rfl rfl ?_
            refine z_iload_n h dX7_amount_58 rfl rfl ?_
            refine z_iload_n h dX7_amount_59 rfl rfl ?_
            refine z_callVIP h (c_X7_amounts l hm hD1 (by rw [hP1]; exact hW) (na := na) (by omega)) (by assumption) rfl gm_RX7_279 rfl ⟨rfl, rfl⟩ 3 (by decide +kernel) ⟨by decide, by decide⟩ rfl rfl (Nat.le_of_ble_eq_true rfl) ⟨Nat.zero_le _, Nat.zero_le _⟩ dX7_amount_60 (fun r ν hν => ?_)
            rw [hP1] at hν
            obtain ⟨I2, J2, rfl, hr, hF2, hv⟩ := hν
            subst hr
            refine z_if_ne h 70 dX7_amount_63 (by decide) (fun c63 => ?_) (fun c63 => ?_)
            · have hv := hv c63
              have c63 := b2i_n0.mp c63
              have hri := (gth_ri hW un (bt (al m)) m (Nat.le_refl _)).1
              have hsd : sd (redu (gth P m un (bt (al m)) m).1 (qrow na none)) = true := by
                unfold AB at c63
                exact ((Bool.and_eq_true _ _).mp c63).2
              obtain ⟨hb8, hb9, hgcd⟩ := q_bound (ob := none) hk0 hk1 hri (show na < 8 by omega) (fun nb w => nomatch w) hsd
              generalize hρ : redu (gth P m un (bt (al m)) m).1 (qrow na none) = ρ at *
              have hne : ¬ J2 x 26 = 0 := fun w => hv.2.2 (by rw [← hv.2.1, w]; rfl)
              have hG := gz_b5 hW (nI na) un sg
              refine z_aload_n h dX7_amount_70 rfl rfl ?_
              refine z_iload h dX7_amount_71 rfl ?_
              refine z_callVL h (c_X7_part l hD1.1 hne) (by assumption) rfl gm_RX7_272 rfl ⟨rfl, rfl⟩ 1 (by decide +kernel) ⟨by decide, by decide⟩ rfl rfl (Nat.le_of_ble_eq_true rfl) ⟨Nat.zero_le _, Nat.zero_le _⟩ dX7_amount_73 ?_
              refine ret ⟨_, _, rfl, hF1.tr hF2, ?_⟩ dX7_amount_76
              rw [if_pos ⟨c12, c22, c31, c45, c53, c63⟩]
              exact fin_val hb8 hb9 hgcd hv.1 hv.2.1 (by omega)
            · have c63 := b2i_0.mp c63
              refine z_ldc2 (v := -1000000000000) h (by decide +kernel) dX7_amount_66 ?_
              exact ret ⟨_, _, rfl, hF1.tr hF2, by rw [if_neg (fun v => by rw [c63] at v; exact absurd v.2.2.2.2.2 (by decide))]; rfl⟩ dX7_amount_69
